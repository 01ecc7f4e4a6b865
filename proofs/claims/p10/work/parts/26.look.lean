/-! looking at hands and frames -/
def r_last (o : Int32) : Bool := decide (o = 29) || (decide (o = 32) || decide (o = 34))
def r_leads (o : Int32) : Bool := r_isIn o.toInt64 29 31
def cpA (f : Nat → Int32) (o : Nat) (g : Nat → Int32) : Nat → Nat → Int32
  | 0 => f
  | n + 1 => upd (cpA f o g n) (o + n) (g n)
theorem cpA_s {f : Nat → Int32} {o : Nat} {g : Nat → Int32} {t : Nat} {v : Int32} (hv : v = g t) : upd (cpA f o g t) (o + t) v = cpA f o g (t + 1) := by rw [hv]; rfl
theorem cpA_0 {f : Nat → Int32} {g : Nat → Int32} {t : Nat} {v : Int32} (hv : v = g t) : upd (cpA f 0 g t) t v = cpA f 0 g (t + 1) := by
  rw [hv]
  show _ = upd (cpA f 0 g t) (0 + t) (g t)
  rw [Nat.zero_add]
theorem fmA_0 {f : Nat → Int32} {t : Nat} {v : Int32} : upd (fmA f 0 v t) t v = fmA f 0 v (t + 1) := by
  show _ = upd (fmA f 0 v t) (0 + t) v
  rw [Nat.zero_add]
theorem sAs_A (x : RS) (k n : Nat) (f : Nat → Int32) (v : Int32) : sA (sAs x k f) k n v = sAs x k (upd f n v) := by
  unfold sA sAs
  have e : va_up x.2.1 k f k = f := by simp [va_up]
  show (x.1, va_up (va_up x.2.1 k f) k (upd (va_up x.2.1 k f k) n v), x.2.2) = _
  rw [e, va_upup]
theorem sAs_self (x : RS) (k : Nat) : sAs x k (x.2.1 k) = x := by
  unfold sAs
  have e : va_up x.2.1 k (x.2.1 k) = x.2.1 := by
    funext j
    by_cases h : j = k
    · subst h; simp [va_up]
    · simp [va_up, h]
  rw [e]
def r_sees (x : RS) (i : Nat) (q : PL) : RS := sAs (sA x 11 i (nI q.2)) 12 (cpA (x.2.1 12) (16 * i) q.1 16)
def p_takes (x : RS) (i : Nat) (h : Nat → Int32) : Nat → Int32 := cpA h 0 (fun k => x.2.1 12 (16 * i + k)) 16
def p_begin (pm : Nat) (h : Nat → Int32) : Nat → Int32 := cpA h 0 (fun k => if k < pm then 1 else 0) 16
def r_forget (x : RS) : RS := sAs x 11 (fmA (x.2.1 11) 0 (-1) 40)
def p_ahead (x : RS) (h : Nat → Int32) : Nat → Int32 := upd (cpA h 0 (x.2.1 17) 8) 8 1
def p_allgo (h f : Nat → Int32) : Nat → Bool
  | 0 => true
  | n + 1 => p_allgo h f n && r_goes (h n) (f n)
theorem p_allgo_f {h f : Nat → Int32} {t : Nat} (c : p_allgo h f t = false) : ∀ u, p_allgo h f (t + u) = false
  | 0 => c
  | u + 1 => by show (p_allgo h f (t + u) && _) = false; rw [p_allgo_f c u]; rfl
def p_gtf (x : RS) (f : Nat) (q : PL) : Bool := decide (x.2.1 7 f = nI q.2) && p_allgo q.1 (fun j => x.2.1 8 (16 * f + j)) (8 + q.2)
theorem s_X10_isLast : mSm yX10_isLast cX10_isLast 1 (some .boolean) 1 := ⟨cd_X10_isLast, st_X10_isLast, ini_X10, by decide, by decide, by decide +kernel⟩
set_option maxHeartbeats 4000000 in
set_option maxRecDepth 100000 in
theorem k_X10_isLast (Γ : mG) (l : Launch) (L : mI → Nat) (M : mM) (a : Int32) : mMet Γ l yX10_isLast cX10_isLast 1 (some .boolean) { frames := 0, cells := 0, slots := 0, locals := 0 } [.int a] L M (mQi Γ (fun r L1 M1 => r = bI (r_last a) ∧ L1 = L ∧ M1 = M)) := by
  refine m_start (by decide) (Nat.le_of_ble_eq_true rfl) ?_
  intro p e s m args below meth c A ls X hr hlk hnm hw hS hl
  have hx := X.1.1
  have hb := X.1.2.1
  have hl : lv_has ls 1 [(0, .int a)] := hl
  refine lv_iload_n hx hb dX10_isLast_0 rfl (lv_at hl 0 rfl) ?_
  refine lv_bipush (v := 29) hx hb dX10_isLast_1 (by decide) ?_
  refine lv_icmp_eq (tgt := 18) hx hb dX10_isLast_3 (by decide) (fun c_1 => ?_) (fun c_1 => ?_)
  · skip
    refine lv_iconst (v := 1) hx hb dX10_isLast_18 (by decide) ?_
    refine lv_goto (tgt := 23) hx hb dX10_isLast_19 (by decide) ?_
    exact m_zret (b := r_last a) X hr hlk hw hS (Nat.zero_le _) (Nat.zero_le _) (by clear hb hx hl hS hw hnm hlk hr X; first | rfl | (simp_all [bI, r_last]; done) | (simp_all [bI, r_last]; rfl)) (⟨rfl, rfl, rfl⟩) dX10_isLast_23
  · skip
    refine lv_iload_n hx hb dX10_isLast_6 rfl (lv_at hl 0 rfl) ?_
    refine lv_bipush (v := 32) hx hb dX10_isLast_7 (by decide) ?_
    refine lv_icmp_eq (tgt := 18) hx hb dX10_isLast_9 (by decide) (fun c_2 => ?_) (fun c_2 => ?_)
    · skip
      refine lv_iconst (v := 1) hx hb dX10_isLast_18 (by decide) ?_
      refine lv_goto (tgt := 23) hx hb dX10_isLast_19 (by decide) ?_
      exact m_zret (b := r_last a) X hr hlk hw hS (Nat.zero_le _) (Nat.zero_le _) (by clear hb hx hl hS hw hnm hlk hr X; first | rfl | (simp_all [bI, r_last]; done) | (simp_all [bI, r_last]; rfl)) (⟨rfl, rfl, rfl⟩) dX10_isLast_23
    · skip
      refine lv_iload_n hx hb dX10_isLast_12 rfl (lv_at hl 0 rfl) ?_
      refine lv_bipush (v := 34) hx hb dX10_isLast_13 (by decide) ?_
      refine lv_icmp_ne (tgt := 22) hx hb dX10_isLast_15 (by decide) (fun c_3 => ?_) (fun c_3 => ?_)
      · skip
        refine lv_iconst (v := 0) hx hb dX10_isLast_22 (by decide) ?_
        exact m_zret (b := r_last a) X hr hlk hw hS (Nat.zero_le _) (Nat.zero_le _) (by clear hb hx hl hS hw hnm hlk hr X; first | rfl | (simp_all [bI, r_last]; done) | (simp_all [bI, r_last]; rfl)) (⟨rfl, rfl, rfl⟩) dX10_isLast_23
      · skip
        refine lv_iconst (v := 1) hx hb dX10_isLast_18 (by decide) ?_
        refine lv_goto (tgt := 23) hx hb dX10_isLast_19 (by decide) ?_
        exact m_zret (b := r_last a) X hr hlk hw hS (Nat.zero_le _) (Nat.zero_le _) (by clear hb hx hl hS hw hnm hlk hr X; first | rfl | (simp_all [bI, r_last]; done) | (simp_all [bI, r_last]; rfl)) (⟨rfl, rfl, rfl⟩) dX10_isLast_23
theorem s_X10_leads : mSm yX10_leads cX10_leads 1 (some .boolean) 1 := ⟨cd_X10_leads, st_X10_leads, ini_X10, by decide, by decide, by decide +kernel⟩
set_option maxHeartbeats 4000000 in
set_option maxRecDepth 100000 in
theorem k_X10_leads (Γ : mG) (l : Launch) (L : mI → Nat) (M : mM) (a : Int32) : mMet Γ l yX10_leads cX10_leads 1 (some .boolean) { frames := 1, cells := 0, slots := 0, locals := 25 } [.int a] L M (mQi Γ (fun r L1 M1 => r = bI (r_leads a) ∧ L1 = L ∧ M1 = M)) := by
  refine m_start (by decide) (Nat.le_of_ble_eq_true rfl) ?_
  intro p e s m args below meth c A ls X hr hlk hnm hw hS hl
  have hx := X.1.1
  have hb := X.1.2.1
  have hl : lv_has ls 1 [(0, .int a)] := hl
  refine lv_iload_n hx hb dX10_leads_0 rfl (lv_at hl 0 rfl) ?_
  refine lv_i2l (v := a.toInt64) hx hb dX10_leads_1 rfl ?_
  refine lv_ldc2 (v := (29)) hx hb X.1.2.2.2.1 (X.1.2.2.2.2 _ kl_X10_184) dX10_leads_2 ?_
  refine lv_ldc2 (v := (31)) hx hb X.1.2.2.2.1 (X.1.2.2.2.2 _ kl_X10_186) dX10_leads_5 ?_
  refine m_calli (m_runS (As := [.long a.toInt64, .long (29), .long (31)]) (rest := []) X (k_X10_isIn Γ l L (M) a.toInt64 (29) (31)) s_X10_isIn ml_X10_79 hw hS rfl hl.1 ⟨Nat.le_of_ble_eq_true rfl, Nat.le_of_ble_eq_true rfl⟩ (Nat.le_of_ble_eq_true rfl) ⟨Nat.le_of_ble_eq_true rfl, Nat.le_of_ble_eq_true rfl⟩ dX10_leads_8) hS (fun r_2 L1 M1 H locs hp_1 hw hS => ?_)
  obtain ⟨rfl, e1, e2⟩ := hp_1
  rw [e1, e2] at hw; clear e1 e2
  exact m_zret (b := r_leads a) X hr hlk hw hS (Nat.zero_le _) (Nat.zero_le _) (by clear hb hx hl hS hw hnm hlk hr X; first | rfl | (simp_all [bI, r_leads]; done) | (simp_all [bI, r_leads]; rfl)) (⟨rfl, rfl, rfl⟩) dX10_leads_11
theorem v_X10_sees : mVm yX10_sees cX10_sees 3 none 1 := ⟨cd_X10_sees, im_X10_sees, se_X10_sees, ini_X10, by decide, by decide, by decide +kernel⟩
set_option maxHeartbeats 4000000 in
set_option maxRecDepth 100000 in
theorem k_X10_sees (Γ : mG) (l : Launch) (L : mI → Nat) (x : RS) (h : Nat → Int32) (d : Nat) (a : Int32) (ii : Nat) (ha : a = nI ii) (hii : ii < 40) : mMet Γ l yX10_sees cX10_sees 3 none { frames := 0, cells := 0, slots := 0, locals := 0 } [.ref (L (.inl 0)), .int a] L (rM Γ L (sH x (h, d))) (mQv Γ (fun L1 M1 => L1 = L ∧ M1 = rM Γ L (sH (r_sees x ii (h, d)) (h, d)))) := by
  refine m_start (by decide) (Nat.le_of_ble_eq_true rfl) ?_
  intro p e s m args below meth c A ls X hr hlk hnm hw hS hl
  have hx := X.1.1
  have hb := X.1.2.1
  have hl : lv_has ls 3 [(0, .ref (L (.inl 0))), (1, .int a)] := hl
  have K12 : ∀ (u t : Nat) (j : Int32) (H : Heap) (locs : List Loc) (ls : Array Slot), t + u = 16 → j = nI t → mW Γ.1 vwCl A L (rM Γ L (sH (sAs (sA x 11 ii (nI d)) 12 (cpA (x.2.1 12) (16 * ii) h t)) (h, d))) H → va_S A s.heap H locs → lv_has ls 3 [(2, .int j), (0, .ref (L (.inl 0))), (1, .int a)] → W p l e { frames := 0, cells := 0, slots := 0, locals := 0 } s m args below meth c H locs 0 0 (MQ below (mQv Γ (fun L1 M1 => L1 = L ∧ M1 = rM Γ L (sH (r_sees x ii (h, d)) (h, d))) A) args s 0 0 A) (F0 m 12 ls []) := by
    intro u
    induction u with
    | zero =>
      intro t j H locs ls ht hj hw hS hl
      refine lv_iload_n hx hb dX10_sees_12 rfl (lv_at hl 0 rfl) ?_
      refine lv_bipush (v := 16) hx hb dX10_sees_13 (by decide) ?_
      refine lv_icmp_ge (tgt := 41) hx hb dX10_sees_15 (by decide) (fun c_1 => ?_) (fun c_1 => ?_)
      · skip
        have c_1n : t ≥ 16 := ngeT (a := t) (b := 16) hj rfl (by omega) (by omega) c_1
        have c_1m : ¬ t < 16 := by omega
        exact m_vret X hr hlk hw hS (Nat.zero_le _) (Nat.zero_le _) ⟨rfl, (by first | exact absurd ht (by omega) | (have e9 : t = 16 := (by omega); subst e9; rfl))⟩ dX10_sees_41
      · skip
        have c_1n : ¬ t ≥ 16 := ngeF (a := t) (b := 16) hj rfl (by omega) (by omega) c_1
        have c_1m : t < 16 := by omega
        refine lv_aload_n hx hb dX10_sees_18 rfl (lv_at hl 1 rfl) ?_
        refine r_get12 X hw dX10_sees_19 ?_
        refine lv_bipush (v := 16) hx hb dX10_sees_22 (by decide) ?_
        refine lv_iload_n hx hb dX10_sees_24 rfl (lv_at hl 2 rfl) ?_
        refine lv_imul hx hb dX10_sees_25 ?_
        refine lv_iload_n hx hb dX10_sees_26 rfl (lv_at hl 0 rfl) ?_
        refine lv_iadd hx hb dX10_sees_27 ?_
        refine lv_aload_n hx hb dX10_sees_28 rfl (lv_at hl 1 rfl) ?_
        refine r_get14 X hw dX10_sees_29 ?_
        refine lv_iload_n hx hb dX10_sees_32 rfl (lv_at hl 0 rfl) ?_
        refine h_ald14 (n := t) X hw hj (by omega) dX10_sees_33 ?_
        refine h_ast12 (n := (16 * ii) + t) X hw hS (nadd (a := 16 * ii) (b := t) (nmul (a := 16) (b := ii) rfl ha) hj) (by omega) dX10_sees_34 (fun H locs hw hS => ?_)
        refine lv_iinc (v := j + 1) (lv' := [(2, .int (j + 1)), (0, .ref (L (.inl 0))), (1, .int a)]) hx hb dX10_sees_35 hl (k := 0) rfl rfl (by decide) rfl (fun ls hl => ?_)
        refine lv_goto (tgt := 12) hx hb dX10_sees_38 (by decide) ?_
        exact absurd ht (by omega)
    | succ u ih =>
      intro t j H locs ls ht hj hw hS hl
      refine lv_iload_n hx hb dX10_sees_12 rfl (lv_at hl 0 rfl) ?_
      refine lv_bipush (v := 16) hx hb dX10_sees_13 (by decide) ?_
      refine lv_icmp_ge (tgt := 41) hx hb dX10_sees_15 (by decide) (fun c_2 => ?_) (fun c_2 => ?_)
      · skip
        have c_2n : t ≥ 16 := ngeT (a := t) (b := 16) hj rfl (by omega) (by omega) c_2
        have c_2m : ¬ t < 16 := by omega
        exact m_vret X hr hlk hw hS (Nat.zero_le _) (Nat.zero_le _) ⟨rfl, (by first | exact absurd ht (by omega) | (have e9 : t = 16 := (by omega); subst e9; rfl))⟩ dX10_sees_41
      · skip
        have c_2n : ¬ t ≥ 16 := ngeF (a := t) (b := 16) hj rfl (by omega) (by omega) c_2
        have c_2m : t < 16 := by omega
        refine lv_aload_n hx hb dX10_sees_18 rfl (lv_at hl 1 rfl) ?_
        refine r_get12 X hw dX10_sees_19 ?_
        refine lv_bipush (v := 16) hx hb dX10_sees_22 (by decide) ?_
        refine lv_iload_n hx hb dX10_sees_24 rfl (lv_at hl 2 rfl) ?_
        refine lv_imul hx hb dX10_sees_25 ?_
        refine lv_iload_n hx hb dX10_sees_26 rfl (lv_at hl 0 rfl) ?_
        refine lv_iadd hx hb dX10_sees_27 ?_
        refine lv_aload_n hx hb dX10_sees_28 rfl (lv_at hl 1 rfl) ?_
        refine r_get14 X hw dX10_sees_29 ?_
        refine lv_iload_n hx hb dX10_sees_32 rfl (lv_at hl 0 rfl) ?_
        refine h_ald14 (n := t) X hw hj (by omega) dX10_sees_33 ?_
        refine h_ast12 (n := (16 * ii) + t) X hw hS (nadd (a := 16 * ii) (b := t) (nmul (a := 16) (b := ii) rfl ha) hj) (by omega) dX10_sees_34 (fun H locs hw hS => ?_)
        refine lv_iinc (v := j + 1) (lv' := [(2, .int (j + 1)), (0, .ref (L (.inl 0))), (1, .int a)]) hx hb dX10_sees_35 hl (k := 0) rfl rfl (by decide) rfl (fun ls hl => ?_)
        refine lv_goto (tgt := 12) hx hb dX10_sees_38 (by decide) ?_
        exact ih (t + 1) _ H locs ls (by omega) (nadd (a := t) (b := 1) hj rfl) (by rw [sAs_A, cpA_s rfl] at hw; exact hw) hS hl
  refine lv_aload_n hx hb dX10_sees_0 rfl (lv_at hl 0 rfl) ?_
  refine r_get11 X hw dX10_sees_1 ?_
  refine lv_iload_n hx hb dX10_sees_4 rfl (lv_at hl 1 rfl) ?_
  refine lv_aload_n hx hb dX10_sees_5 rfl (lv_at hl 0 rfl) ?_
  refine h_get15 X hw dX10_sees_6 ?_
  refine h_ast11 (n := ii) X hw hS ha (by omega) dX10_sees_9 (fun H locs hw hS => ?_)
  refine lv_iconst (v := 0) hx hb dX10_sees_10 (by decide) ?_
  refine lv_istore_n (lv' := [(2, .int 0), (0, .ref (L (.inl 0))), (1, .int a)]) hx hb dX10_sees_11 rfl hl (by decide) rfl (fun ls hl => ?_)
  exact K12 16 0 _ _ _ ls rfl rfl (by show mW Γ.1 vwCl A L (rM Γ L (sH (sAs (sA x 11 ii (nI d)) 12 ((sA x 11 ii (nI d)).2.1 12)) (h, d))) _; rw [sAs_self]; exact hw) hS hl
theorem v_X10_takes : mVm yX10_takes cX10_takes 3 none 1 := ⟨cd_X10_takes, im_X10_takes, se_X10_takes, ini_X10, by decide, by decide, by decide +kernel⟩
set_option maxHeartbeats 4000000 in
set_option maxRecDepth 100000 in
theorem k_X10_takes (Γ : mG) (l : Launch) (L : mI → Nat) (x : RS) (h : Nat → Int32) (d : Nat) (a : Int32) (ii e1 : Nat) (ha : a = nI ii) (hii : ii < 40) (he : x.2.1 11 ii = nI e1) : mMet Γ l yX10_takes cX10_takes 3 none { frames := 0, cells := 0, slots := 0, locals := 0 } [.ref (L (.inl 0)), .int a] L (rM Γ L (sH x (h, d))) (mQv Γ (fun L1 M1 => L1 = L ∧ M1 = rM Γ L (sH (x) (p_takes x ii h, e1)))) := by
  refine m_start (by decide) (Nat.le_of_ble_eq_true rfl) ?_
  intro p e s m args below meth c A ls X hr hlk hnm hw hS hl
  have hx := X.1.1
  have hb := X.1.2.1
  have hl : lv_has ls 3 [(0, .ref (L (.inl 0))), (1, .int a)] := hl
  have K12 : ∀ (u t : Nat) (j : Int32) (H : Heap) (locs : List Loc) (ls : Array Slot), t + u = 16 → j = nI t → mW Γ.1 vwCl A L (rM Γ L (sH (x) (cpA h 0 (fun k => x.2.1 12 (16 * ii + k)) t, e1))) H → va_S A s.heap H locs → lv_has ls 3 [(2, .int j), (0, .ref (L (.inl 0))), (1, .int a)] → W p l e { frames := 0, cells := 0, slots := 0, locals := 0 } s m args below meth c H locs 0 0 (MQ below (mQv Γ (fun L1 M1 => L1 = L ∧ M1 = rM Γ L (sH (x) (p_takes x ii h, e1))) A) args s 0 0 A) (F0 m 12 ls []) := by
    intro u
    induction u with
    | zero =>
      intro t j H locs ls ht hj hw hS hl
      refine lv_iload_n hx hb dX10_takes_12 rfl (lv_at hl 0 rfl) ?_
      refine lv_bipush (v := 16) hx hb dX10_takes_13 (by decide) ?_
      refine lv_icmp_ge (tgt := 41) hx hb dX10_takes_15 (by decide) (fun c_1 => ?_) (fun c_1 => ?_)
      · skip
        have c_1n : t ≥ 16 := ngeT (a := t) (b := 16) hj rfl (by omega) (by omega) c_1
        have c_1m : ¬ t < 16 := by omega
        exact m_vret X hr hlk hw hS (Nat.zero_le _) (Nat.zero_le _) ⟨rfl, (by first | exact absurd ht (by omega) | (have e9 : t = 16 := (by omega); subst e9; rfl))⟩ dX10_takes_41
      · skip
        have c_1n : ¬ t ≥ 16 := ngeF (a := t) (b := 16) hj rfl (by omega) (by omega) c_1
        have c_1m : t < 16 := by omega
        refine lv_aload_n hx hb dX10_takes_18 rfl (lv_at hl 1 rfl) ?_
        refine r_get14 X hw dX10_takes_19 ?_
        refine lv_iload_n hx hb dX10_takes_22 rfl (lv_at hl 0 rfl) ?_
        refine lv_aload_n hx hb dX10_takes_23 rfl (lv_at hl 1 rfl) ?_
        refine r_get12 X hw dX10_takes_24 ?_
        refine lv_bipush (v := 16) hx hb dX10_takes_27 (by decide) ?_
        refine lv_iload_n hx hb dX10_takes_29 rfl (lv_at hl 2 rfl) ?_
        refine lv_imul hx hb dX10_takes_30 ?_
        refine lv_iload_n hx hb dX10_takes_31 rfl (lv_at hl 0 rfl) ?_
        refine lv_iadd hx hb dX10_takes_32 ?_
        refine h_ald12 (n := (16 * ii) + t) X hw (nadd (a := 16 * ii) (b := t) (nmul (a := 16) (b := ii) rfl ha) hj) (by omega) dX10_takes_33 ?_
        refine h_ast14 (n := t) X hw hS hj (by omega) dX10_takes_34 (fun H locs hw hS => ?_)
        refine lv_iinc (v := j + 1) (lv' := [(2, .int (j + 1)), (0, .ref (L (.inl 0))), (1, .int a)]) hx hb dX10_takes_35 hl (k := 0) rfl rfl (by decide) rfl (fun ls hl => ?_)
        refine lv_goto (tgt := 12) hx hb dX10_takes_38 (by decide) ?_
        exact absurd ht (by omega)
    | succ u ih =>
      intro t j H locs ls ht hj hw hS hl
      refine lv_iload_n hx hb dX10_takes_12 rfl (lv_at hl 0 rfl) ?_
      refine lv_bipush (v := 16) hx hb dX10_takes_13 (by decide) ?_
      refine lv_icmp_ge (tgt := 41) hx hb dX10_takes_15 (by decide) (fun c_2 => ?_) (fun c_2 => ?_)
      · skip
        have c_2n : t ≥ 16 := ngeT (a := t) (b := 16) hj rfl (by omega) (by omega) c_2
        have c_2m : ¬ t < 16 := by omega
        exact m_vret X hr hlk hw hS (Nat.zero_le _) (Nat.zero_le _) ⟨rfl, (by first | exact absurd ht (by omega) | (have e9 : t = 16 := (by omega); subst e9; rfl))⟩ dX10_takes_41
      · skip
        have c_2n : ¬ t ≥ 16 := ngeF (a := t) (b := 16) hj rfl (by omega) (by omega) c_2
        have c_2m : t < 16 := by omega
        refine lv_aload_n hx hb dX10_takes_18 rfl (lv_at hl 1 rfl) ?_
        refine r_get14 X hw dX10_takes_19 ?_
        refine lv_iload_n hx hb dX10_takes_22 rfl (lv_at hl 0 rfl) ?_
        refine lv_aload_n hx hb dX10_takes_23 rfl (lv_at hl 1 rfl) ?_
        refine r_get12 X hw dX10_takes_24 ?_
        refine lv_bipush (v := 16) hx hb dX10_takes_27 (by decide) ?_
        refine lv_iload_n hx hb dX10_takes_29 rfl (lv_at hl 2 rfl) ?_
        refine lv_imul hx hb dX10_takes_30 ?_
        refine lv_iload_n hx hb dX10_takes_31 rfl (lv_at hl 0 rfl) ?_
        refine lv_iadd hx hb dX10_takes_32 ?_
        refine h_ald12 (n := (16 * ii) + t) X hw (nadd (a := 16 * ii) (b := t) (nmul (a := 16) (b := ii) rfl ha) hj) (by omega) dX10_takes_33 ?_
        refine h_ast14 (n := t) X hw hS hj (by omega) dX10_takes_34 (fun H locs hw hS => ?_)
        refine lv_iinc (v := j + 1) (lv' := [(2, .int (j + 1)), (0, .ref (L (.inl 0))), (1, .int a)]) hx hb dX10_takes_35 hl (k := 0) rfl rfl (by decide) rfl (fun ls hl => ?_)
        refine lv_goto (tgt := 12) hx hb dX10_takes_38 (by decide) ?_
        exact ih (t + 1) _ H locs ls (by omega) (nadd (a := t) (b := 1) hj rfl) (by rw [cpA_0 (g := fun k => x.2.1 12 (16 * ii + k)) rfl] at hw; exact hw) hS hl
  refine lv_aload_n hx hb dX10_takes_0 rfl (lv_at hl 0 rfl) ?_
  refine lv_aload_n hx hb dX10_takes_1 rfl (lv_at hl 0 rfl) ?_
  refine r_get11 X hw dX10_takes_2 ?_
  refine lv_iload_n hx hb dX10_takes_5 rfl (lv_at hl 1 rfl) ?_
  refine h_ald11 (n := ii) X hw ha (by omega) dX10_takes_6 ?_
  refine h_put15 X hw hS he dX10_takes_7 (fun H locs hw hS => ?_)
  refine lv_iconst (v := 0) hx hb dX10_takes_10 (by decide) ?_
  refine lv_istore_n (lv' := [(2, .int 0), (0, .ref (L (.inl 0))), (1, .int a)]) hx hb dX10_takes_11 rfl hl (by decide) rfl (fun ls hl => ?_)
  exact K12 16 0 _ _ _ ls rfl rfl hw hS hl
theorem v_X10_ahead : mVm yX10_ahead cX10_ahead 3 none 1 := ⟨cd_X10_ahead, im_X10_ahead, se_X10_ahead, ini_X10, by decide, by decide, by decide +kernel⟩
set_option maxHeartbeats 4000000 in
set_option maxRecDepth 100000 in
theorem k_X10_ahead (Γ : mG) (l : Launch) (L : mI → Nat) (x : RS) (h : Nat → Int32) (d : Nat) (a : Int32)  : mMet Γ l yX10_ahead cX10_ahead 3 none { frames := 0, cells := 0, slots := 0, locals := 0 } [.ref (L (.inl 0)), .int a] L (rM Γ L (sH x (h, d))) (mQv Γ (fun L1 M1 => L1 = L ∧ M1 = rM Γ L (sH (x) (p_ahead x h, 1)))) := by
  refine m_start (by decide) (Nat.le_of_ble_eq_true rfl) ?_
  intro p e s m args below meth c A ls X hr hlk hnm hw hS hl
  have hx := X.1.1
  have hb := X.1.2.1
  have hl : lv_has ls 3 [(0, .ref (L (.inl 0))), (1, .int a)] := hl
  have K2 : ∀ (u t : Nat) (j : Int32) (H : Heap) (locs : List Loc) (ls : Array Slot), t + u = 8 → j = nI t → mW Γ.1 vwCl A L (rM Γ L (sH (x) (cpA h 0 (x.2.1 17) t, d))) H → va_S A s.heap H locs → lv_has ls 3 [(2, .int j), (0, .ref (L (.inl 0))), (1, .int a)] → W p l e { frames := 0, cells := 0, slots := 0, locals := 0 } s m args below meth c H locs 0 0 (MQ below (mQv Γ (fun L1 M1 => L1 = L ∧ M1 = rM Γ L (sH (x) (p_ahead x h, 1))) A) args s 0 0 A) (F0 m 2 ls []) := by
    intro u
    induction u with
    | zero =>
      intro t j H locs ls ht hj hw hS hl
      refine lv_iload_n hx hb dX10_ahead_2 rfl (lv_at hl 0 rfl) ?_
      refine lv_bipush (v := 8) hx hb dX10_ahead_3 (by decide) ?_
      refine lv_icmp_ge (tgt := 26) hx hb dX10_ahead_5 (by decide) (fun c_1 => ?_) (fun c_1 => ?_)
      · skip
        have c_1n : t ≥ 8 := ngeT (a := t) (b := 8) hj rfl (by omega) (by omega) c_1
        have c_1m : ¬ t < 8 := by omega
        refine lv_aload_n hx hb dX10_ahead_26 rfl (lv_at hl 1 rfl) ?_
        refine r_get14 X hw dX10_ahead_27 ?_
        refine lv_bipush (v := 8) hx hb dX10_ahead_30 (by decide) ?_
        refine lv_iconst (v := 1) hx hb dX10_ahead_32 (by decide) ?_
        refine h_ast14 (n := 8) X hw hS rfl (by omega) dX10_ahead_33 (fun H locs hw hS => ?_)
        refine lv_aload_n hx hb dX10_ahead_34 rfl (lv_at hl 1 rfl) ?_
        refine lv_iconst (v := 1) hx hb dX10_ahead_35 (by decide) ?_
        refine h_put15 X hw hS rfl dX10_ahead_36 (fun H locs hw hS => ?_)
        exact m_vret X hr hlk hw hS (Nat.zero_le _) (Nat.zero_le _) ⟨rfl, (by first | exact absurd ht (by omega) | (have e9 : t = 8 := (by omega); subst e9; rfl))⟩ dX10_ahead_39
      · skip
        have c_1n : ¬ t ≥ 8 := ngeF (a := t) (b := 8) hj rfl (by omega) (by omega) c_1
        have c_1m : t < 8 := by omega
        refine lv_aload_n hx hb dX10_ahead_8 rfl (lv_at hl 1 rfl) ?_
        refine r_get14 X hw dX10_ahead_9 ?_
        refine lv_iload_n hx hb dX10_ahead_12 rfl (lv_at hl 0 rfl) ?_
        refine lv_aload_n hx hb dX10_ahead_13 rfl (lv_at hl 1 rfl) ?_
        refine r_get17 X hw dX10_ahead_14 ?_
        refine lv_iload_n hx hb dX10_ahead_17 rfl (lv_at hl 0 rfl) ?_
        refine h_ald17 (n := t) X hw hj (by omega) dX10_ahead_18 ?_
        refine h_ast14 (n := t) X hw hS hj (by omega) dX10_ahead_19 (fun H locs hw hS => ?_)
        refine lv_iinc (v := j + 1) (lv' := [(2, .int (j + 1)), (0, .ref (L (.inl 0))), (1, .int a)]) hx hb dX10_ahead_20 hl (k := 0) rfl rfl (by decide) rfl (fun ls hl => ?_)
        refine lv_goto (tgt := 2) hx hb dX10_ahead_23 (by decide) ?_
        exact absurd ht (by omega)
    | succ u ih =>
      intro t j H locs ls ht hj hw hS hl
      refine lv_iload_n hx hb dX10_ahead_2 rfl (lv_at hl 0 rfl) ?_
      refine lv_bipush (v := 8) hx hb dX10_ahead_3 (by decide) ?_
      refine lv_icmp_ge (tgt := 26) hx hb dX10_ahead_5 (by decide) (fun c_2 => ?_) (fun c_2 => ?_)
      · skip
        have c_2n : t ≥ 8 := ngeT (a := t) (b := 8) hj rfl (by omega) (by omega) c_2
        have c_2m : ¬ t < 8 := by omega
        refine lv_aload_n hx hb dX10_ahead_26 rfl (lv_at hl 1 rfl) ?_
        refine r_get14 X hw dX10_ahead_27 ?_
        refine lv_bipush (v := 8) hx hb dX10_ahead_30 (by decide) ?_
        refine lv_iconst (v := 1) hx hb dX10_ahead_32 (by decide) ?_
        refine h_ast14 (n := 8) X hw hS rfl (by omega) dX10_ahead_33 (fun H locs hw hS => ?_)
        refine lv_aload_n hx hb dX10_ahead_34 rfl (lv_at hl 1 rfl) ?_
        refine lv_iconst (v := 1) hx hb dX10_ahead_35 (by decide) ?_
        refine h_put15 X hw hS rfl dX10_ahead_36 (fun H locs hw hS => ?_)
        exact m_vret X hr hlk hw hS (Nat.zero_le _) (Nat.zero_le _) ⟨rfl, (by first | exact absurd ht (by omega) | (have e9 : t = 8 := (by omega); subst e9; rfl))⟩ dX10_ahead_39
      · skip
        have c_2n : ¬ t ≥ 8 := ngeF (a := t) (b := 8) hj rfl (by omega) (by omega) c_2
        have c_2m : t < 8 := by omega
        refine lv_aload_n hx hb dX10_ahead_8 rfl (lv_at hl 1 rfl) ?_
        refine r_get14 X hw dX10_ahead_9 ?_
        refine lv_iload_n hx hb dX10_ahead_12 rfl (lv_at hl 0 rfl) ?_
        refine lv_aload_n hx hb dX10_ahead_13 rfl (lv_at hl 1 rfl) ?_
        refine r_get17 X hw dX10_ahead_14 ?_
        refine lv_iload_n hx hb dX10_ahead_17 rfl (lv_at hl 0 rfl) ?_
        refine h_ald17 (n := t) X hw hj (by omega) dX10_ahead_18 ?_
        refine h_ast14 (n := t) X hw hS hj (by omega) dX10_ahead_19 (fun H locs hw hS => ?_)
        refine lv_iinc (v := j + 1) (lv' := [(2, .int (j + 1)), (0, .ref (L (.inl 0))), (1, .int a)]) hx hb dX10_ahead_20 hl (k := 0) rfl rfl (by decide) rfl (fun ls hl => ?_)
        refine lv_goto (tgt := 2) hx hb dX10_ahead_23 (by decide) ?_
        exact ih (t + 1) _ H locs ls (by omega) (nadd (a := t) (b := 1) hj rfl) (by rw [cpA_0 (g := x.2.1 17) rfl] at hw; exact hw) hS hl
  refine lv_iconst (v := 0) hx hb dX10_ahead_0 (by decide) ?_
  refine lv_istore_n (lv' := [(2, .int 0), (0, .ref (L (.inl 0))), (1, .int a)]) hx hb dX10_ahead_1 rfl hl (by decide) rfl (fun ls hl => ?_)
  exact K2 8 0 _ _ _ ls rfl rfl hw hS hl
theorem v_X10_begins : mVm yX10_begins cX10_begins 3 none 1 := ⟨cd_X10_begins, im_X10_begins, se_X10_begins, ini_X10, by decide, by decide, by decide +kernel⟩
set_option maxHeartbeats 4000000 in
set_option maxRecDepth 100000 in
theorem k_X10_begins (Γ : mG) (l : Launch) (L : mI → Nat) (x : RS) (h : Nat → Int32) (d : Nat) (a : Int32) (k pm : Nat) (ha : a = nI k) (hk : k < 8) (hpm : x.2.1 1 k = nI pm) (hp4 : pm ≤ 4) : mMet Γ l yX10_begins cX10_begins 3 none { frames := 0, cells := 0, slots := 0, locals := 0 } [.ref (L (.inl 0)), .int a] L (rM Γ L (sH x (h, d))) (mQv Γ (fun L1 M1 => L1 = L ∧ M1 = rM Γ L (sH (r_forget x) (p_begin pm h, 0)))) := by
  refine m_start (by decide) (Nat.le_of_ble_eq_true rfl) ?_
  intro p e s m args below meth c A ls X hr hlk hnm hw hS hl
  have hx := X.1.1
  have hb := X.1.2.1
  have hl : lv_has ls 3 [(0, .ref (L (.inl 0))), (1, .int a)] := hl
  have K42 : ∀ (u t : Nat) (j : Int32) (H : Heap) (locs : List Loc) (ls : Array Slot), t + u = 40 → j = nI t → mW Γ.1 vwCl A L (rM Γ L (sH (sAs x 11 (fmA (x.2.1 11) 0 (-1) t)) (p_begin pm h, 0))) H → va_S A s.heap H locs → lv_has ls 3 [(2, .int j), (0, .ref (L (.inl 0))), (1, .int a)] → W p l e { frames := 0, cells := 0, slots := 0, locals := 0 } s m args below meth c H locs 0 0 (MQ below (mQv Γ (fun L1 M1 => L1 = L ∧ M1 = rM Γ L (sH (r_forget x) (p_begin pm h, 0))) A) args s 0 0 A) (F0 m 42 ls []) := by
    intro u
    induction u with
    | zero =>
      intro t j H locs ls ht hj hw hS hl
      refine lv_iload_n hx hb dX10_begins_42 rfl (lv_at hl 0 rfl) ?_
      refine lv_bipush (v := 40) hx hb dX10_begins_43 (by decide) ?_
      refine lv_icmp_ge (tgt := 61) hx hb dX10_begins_45 (by decide) (fun c_1 => ?_) (fun c_1 => ?_)
      · skip
        have c_1n : t ≥ 40 := ngeT (a := t) (b := 40) hj rfl (by omega) (by omega) c_1
        have c_1m : ¬ t < 40 := by omega
        exact m_vret X hr hlk hw hS (Nat.zero_le _) (Nat.zero_le _) ⟨rfl, (by first | exact absurd ht (by omega) | (have e9 : t = 40 := (by omega); subst e9; rfl))⟩ dX10_begins_61
      · skip
        have c_1n : ¬ t ≥ 40 := ngeF (a := t) (b := 40) hj rfl (by omega) (by omega) c_1
        have c_1m : t < 40 := by omega
        refine lv_aload_n hx hb dX10_begins_48 rfl (lv_at hl 1 rfl) ?_
        refine r_get11 X hw dX10_begins_49 ?_
        refine lv_iload_n hx hb dX10_begins_52 rfl (lv_at hl 0 rfl) ?_
        refine lv_iconst (v := (-1)) hx hb dX10_begins_53 (by decide) ?_
        refine h_ast11 (n := t) X hw hS hj (by omega) dX10_begins_54 (fun H locs hw hS => ?_)
        refine lv_iinc (v := j + 1) (lv' := [(2, .int (j + 1)), (0, .ref (L (.inl 0))), (1, .int a)]) hx hb dX10_begins_55 hl (k := 0) rfl rfl (by decide) rfl (fun ls hl => ?_)
        refine lv_goto (tgt := 42) hx hb dX10_begins_58 (by decide) ?_
        exact absurd ht (by omega)
    | succ u ih =>
      intro t j H locs ls ht hj hw hS hl
      refine lv_iload_n hx hb dX10_begins_42 rfl (lv_at hl 0 rfl) ?_
      refine lv_bipush (v := 40) hx hb dX10_begins_43 (by decide) ?_
      refine lv_icmp_ge (tgt := 61) hx hb dX10_begins_45 (by decide) (fun c_2 => ?_) (fun c_2 => ?_)
      · skip
        have c_2n : t ≥ 40 := ngeT (a := t) (b := 40) hj rfl (by omega) (by omega) c_2
        have c_2m : ¬ t < 40 := by omega
        exact m_vret X hr hlk hw hS (Nat.zero_le _) (Nat.zero_le _) ⟨rfl, (by first | exact absurd ht (by omega) | (have e9 : t = 40 := (by omega); subst e9; rfl))⟩ dX10_begins_61
      · skip
        have c_2n : ¬ t ≥ 40 := ngeF (a := t) (b := 40) hj rfl (by omega) (by omega) c_2
        have c_2m : t < 40 := by omega
        refine lv_aload_n hx hb dX10_begins_48 rfl (lv_at hl 1 rfl) ?_
        refine r_get11 X hw dX10_begins_49 ?_
        refine lv_iload_n hx hb dX10_begins_52 rfl (lv_at hl 0 rfl) ?_
        refine lv_iconst (v := (-1)) hx hb dX10_begins_53 (by decide) ?_
        refine h_ast11 (n := t) X hw hS hj (by omega) dX10_begins_54 (fun H locs hw hS => ?_)
        refine lv_iinc (v := j + 1) (lv' := [(2, .int (j + 1)), (0, .ref (L (.inl 0))), (1, .int a)]) hx hb dX10_begins_55 hl (k := 0) rfl rfl (by decide) rfl (fun ls hl => ?_)
        refine lv_goto (tgt := 42) hx hb dX10_begins_58 (by decide) ?_
        exact ih (t + 1) _ H locs ls (by omega) (nadd (a := t) (b := 1) hj rfl) (by rw [sAs_A, fmA_0] at hw; exact hw) hS hl
  have K7 : ∀ (u t : Nat) (j : Int32) (H : Heap) (locs : List Loc) (ls : Array Slot), t + u = 16 → j = nI t → mW Γ.1 vwCl A L (rM Γ L (sH (x) (cpA h 0 (fun k => if k < pm then 1 else 0) t, 0))) H → va_S A s.heap H locs → lv_has ls 3 [(2, .int j), (0, .ref (L (.inl 0))), (1, .int a)] → W p l e { frames := 0, cells := 0, slots := 0, locals := 0 } s m args below meth c H locs 0 0 (MQ below (mQv Γ (fun L1 M1 => L1 = L ∧ M1 = rM Γ L (sH (r_forget x) (p_begin pm h, 0))) A) args s 0 0 A) (F0 m 7 ls []) := by
    intro u
    induction u with
    | zero =>
      intro t j H locs ls ht hj hw hS hl
      refine lv_iload_n hx hb dX10_begins_7 rfl (lv_at hl 0 rfl) ?_
      refine lv_bipush (v := 16) hx hb dX10_begins_8 (by decide) ?_
      refine lv_icmp_ge (tgt := 40) hx hb dX10_begins_10 (by decide) (fun c_3 => ?_) (fun c_3 => ?_)
      · skip
        have c_3n : t ≥ 16 := ngeT (a := t) (b := 16) hj rfl (by omega) (by omega) c_3
        have c_3m : ¬ t < 16 := by omega
        refine lv_iconst (v := 0) hx hb dX10_begins_40 (by decide) ?_
        refine lv_istore_n (lv' := [(2, .int 0), (0, .ref (L (.inl 0))), (1, .int a)]) hx hb dX10_begins_41 rfl hl (by decide) rfl (fun ls hl => ?_)
        exact K42 40 0 _ _ _ ls rfl rfl (by show mW Γ.1 vwCl A L (rM Γ L (sH (sAs x 11 (x.2.1 11)) (p_begin pm h, 0))) _; rw [sAs_self]; have e9 : t = 16 := (by omega); subst e9; exact hw) hS (lv_sub hl [0, 1, 2] rfl)
      · skip
        have c_3n : ¬ t ≥ 16 := ngeF (a := t) (b := 16) hj rfl (by omega) (by omega) c_3
        have c_3m : t < 16 := by omega
        refine lv_aload_n hx hb dX10_begins_13 rfl (lv_at hl 1 rfl) ?_
        refine r_get14 X hw dX10_begins_14 ?_
        refine lv_iload_n hx hb dX10_begins_17 rfl (lv_at hl 0 rfl) ?_
        refine lv_iload_n hx hb dX10_begins_18 rfl (lv_at hl 0 rfl) ?_
        refine lv_aload_n hx hb dX10_begins_19 rfl (lv_at hl 1 rfl) ?_
        refine r_get1 X hw dX10_begins_20 ?_
        refine lv_iload_n hx hb dX10_begins_23 rfl (lv_at hl 2 rfl) ?_
        refine h_ald1 (n := k) X hw ha (by omega) dX10_begins_24 ?_
        refine lv_icmp_ge (tgt := 32) hx hb dX10_begins_25 (by decide) (fun c_4 => ?_) (fun c_4 => ?_)
        · skip
          have c_4n : t ≥ pm := ngeT (a := t) (b := pm) hj hpm (by omega) (by omega) c_4
          have c_4m : ¬ t < pm := by omega
          refine lv_iconst (v := 0) hx hb dX10_begins_32 (by decide) ?_
          refine h_ast14 (n := t) X hw hS hj (by omega) dX10_begins_33 (fun H locs hw hS => ?_)
          refine lv_iinc (v := j + 1) (lv' := [(2, .int (j + 1)), (0, .ref (L (.inl 0))), (1, .int a)]) hx hb dX10_begins_34 hl (k := 0) rfl rfl (by decide) rfl (fun ls hl => ?_)
          refine lv_goto (tgt := 7) hx hb dX10_begins_37 (by decide) ?_
          exact absurd ht (by omega)
        · skip
          have c_4n : ¬ t ≥ pm := ngeF (a := t) (b := pm) hj hpm (by omega) (by omega) c_4
          have c_4m : t < pm := by omega
          refine lv_iconst (v := 1) hx hb dX10_begins_28 (by decide) ?_
          refine lv_goto (tgt := 33) hx hb dX10_begins_29 (by decide) ?_
          refine h_ast14 (n := t) X hw hS hj (by omega) dX10_begins_33 (fun H locs hw hS => ?_)
          refine lv_iinc (v := j + 1) (lv' := [(2, .int (j + 1)), (0, .ref (L (.inl 0))), (1, .int a)]) hx hb dX10_begins_34 hl (k := 0) rfl rfl (by decide) rfl (fun ls hl => ?_)
          refine lv_goto (tgt := 7) hx hb dX10_begins_37 (by decide) ?_
          exact absurd ht (by omega)
    | succ u ih =>
      intro t j H locs ls ht hj hw hS hl
      refine lv_iload_n hx hb dX10_begins_7 rfl (lv_at hl 0 rfl) ?_
      refine lv_bipush (v := 16) hx hb dX10_begins_8 (by decide) ?_
      refine lv_icmp_ge (tgt := 40) hx hb dX10_begins_10 (by decide) (fun c_5 => ?_) (fun c_5 => ?_)
      · skip
        have c_5n : t ≥ 16 := ngeT (a := t) (b := 16) hj rfl (by omega) (by omega) c_5
        have c_5m : ¬ t < 16 := by omega
        refine lv_iconst (v := 0) hx hb dX10_begins_40 (by decide) ?_
        refine lv_istore_n (lv' := [(2, .int 0), (0, .ref (L (.inl 0))), (1, .int a)]) hx hb dX10_begins_41 rfl hl (by decide) rfl (fun ls hl => ?_)
        exact K42 40 0 _ _ _ ls rfl rfl (by show mW Γ.1 vwCl A L (rM Γ L (sH (sAs x 11 (x.2.1 11)) (p_begin pm h, 0))) _; rw [sAs_self]; have e9 : t = 16 := (by omega); subst e9; exact hw) hS (lv_sub hl [0, 1, 2] rfl)
      · skip
        have c_5n : ¬ t ≥ 16 := ngeF (a := t) (b := 16) hj rfl (by omega) (by omega) c_5
        have c_5m : t < 16 := by omega
        refine lv_aload_n hx hb dX10_begins_13 rfl (lv_at hl 1 rfl) ?_
        refine r_get14 X hw dX10_begins_14 ?_
        refine lv_iload_n hx hb dX10_begins_17 rfl (lv_at hl 0 rfl) ?_
        refine lv_iload_n hx hb dX10_begins_18 rfl (lv_at hl 0 rfl) ?_
        refine lv_aload_n hx hb dX10_begins_19 rfl (lv_at hl 1 rfl) ?_
        refine r_get1 X hw dX10_begins_20 ?_
        refine lv_iload_n hx hb dX10_begins_23 rfl (lv_at hl 2 rfl) ?_
        refine h_ald1 (n := k) X hw ha (by omega) dX10_begins_24 ?_
        refine lv_icmp_ge (tgt := 32) hx hb dX10_begins_25 (by decide) (fun c_6 => ?_) (fun c_6 => ?_)
        · skip
          have c_6n : t ≥ pm := ngeT (a := t) (b := pm) hj hpm (by omega) (by omega) c_6
          have c_6m : ¬ t < pm := by omega
          refine lv_iconst (v := 0) hx hb dX10_begins_32 (by decide) ?_
          refine h_ast14 (n := t) X hw hS hj (by omega) dX10_begins_33 (fun H locs hw hS => ?_)
          refine lv_iinc (v := j + 1) (lv' := [(2, .int (j + 1)), (0, .ref (L (.inl 0))), (1, .int a)]) hx hb dX10_begins_34 hl (k := 0) rfl rfl (by decide) rfl (fun ls hl => ?_)
          refine lv_goto (tgt := 7) hx hb dX10_begins_37 (by decide) ?_
          exact ih (t + 1) _ H locs ls (by omega) (nadd (a := t) (b := 1) hj rfl) (by rw [cpA_0 (g := fun k => if k < pm then 1 else 0) (by first | exact (if_pos (by omega)).symm | exact (if_neg (by omega)).symm)] at hw; exact hw) hS hl
        · skip
          have c_6n : ¬ t ≥ pm := ngeF (a := t) (b := pm) hj hpm (by omega) (by omega) c_6
          have c_6m : t < pm := by omega
          refine lv_iconst (v := 1) hx hb dX10_begins_28 (by decide) ?_
          refine lv_goto (tgt := 33) hx hb dX10_begins_29 (by decide) ?_
          refine h_ast14 (n := t) X hw hS hj (by omega) dX10_begins_33 (fun H locs hw hS => ?_)
          refine lv_iinc (v := j + 1) (lv' := [(2, .int (j + 1)), (0, .ref (L (.inl 0))), (1, .int a)]) hx hb dX10_begins_34 hl (k := 0) rfl rfl (by decide) rfl (fun ls hl => ?_)
          refine lv_goto (tgt := 7) hx hb dX10_begins_37 (by decide) ?_
          exact ih (t + 1) _ H locs ls (by omega) (nadd (a := t) (b := 1) hj rfl) (by rw [cpA_0 (g := fun k => if k < pm then 1 else 0) (by first | exact (if_pos (by omega)).symm | exact (if_neg (by omega)).symm)] at hw; exact hw) hS hl
  refine lv_aload_n hx hb dX10_begins_0 rfl (lv_at hl 0 rfl) ?_
  refine lv_iconst (v := 0) hx hb dX10_begins_1 (by decide) ?_
  refine h_put15 X hw hS rfl dX10_begins_2 (fun H locs hw hS => ?_)
  refine lv_iconst (v := 0) hx hb dX10_begins_5 (by decide) ?_
  refine lv_istore_n (lv' := [(2, .int 0), (0, .ref (L (.inl 0))), (1, .int a)]) hx hb dX10_begins_6 rfl hl (by decide) rfl (fun ls hl => ?_)
  exact K7 16 0 _ _ _ ls rfl rfl hw hS hl
theorem v_X10_goesToFrame : mVm yX10_goesToFrame cX10_goesToFrame 6 (some .boolean) 2 := ⟨cd_X10_goesToFrame, im_X10_goesToFrame, se_X10_goesToFrame, ini_X10, by decide, by decide, by decide +kernel⟩
set_option maxHeartbeats 4000000 in
set_option maxRecDepth 100000 in
theorem k_X10_goesToFrame (Γ : mG) (l : Launch) (L : mI → Nat) (x : RS) (h : Nat → Int32) (d : Nat) (a b : Int32) (k ii : Nat) (hd : d ≤ 8) (ha : a = nI k) (hk : k < 8) (hbi : b = nI ii) (hii : ii < 40) : mMet Γ l yX10_goesToFrame cX10_goesToFrame 6 (some .boolean) { frames := 4, cells := 0, slots := 0, locals := 86 } [.ref (L (.inl 0)), .int a, .int b] L (rM Γ L (sH x (h, d))) (mQi Γ (fun r L1 M1 => r = bI (p_gtf x (40 * k + ii) (h, d)) ∧ L1 = L ∧ M1 = rM Γ L (sH x (h, d)))) := by
  refine m_start (by decide) (Nat.le_of_ble_eq_true rfl) ?_
  intro p e s m args below meth c A ls X hr hlk hnm hw hS hl
  have hx := X.1.1
  have hb := X.1.2.1
  have hl : lv_has ls 6 [(0, .ref (L (.inl 0))), (1, .int a), (2, .int b)] := hl
  have K28 : ∀ (u t : Nat) (j w : Int32) (g : Bool) (H : Heap) (locs : List Loc) (ls : Array Slot), t + u = 8 + d → j = nI t → w = nI (40 * k + ii) → g = p_allgo h (fun j => x.2.1 8 (16 * (40 * k + ii) + j)) t → x.2.1 7 (40 * k + ii) = nI d → mW Γ.1 vwCl A L (rM Γ L (sH x (h, d))) H → va_S A s.heap H locs → lv_has ls 6 [(5, .int j), (4, .int (bI g)), (3, .int w), (0, .ref (L (.inl 0))), (1, .int a), (2, .int b)] → W p l e { frames := 4, cells := 0, slots := 0, locals := 86 } s m args below meth c H locs 0 0 (MQ below (mQi Γ (fun r L1 M1 => r = bI (p_gtf x (40 * k + ii) (h, d)) ∧ L1 = L ∧ M1 = rM Γ L (sH x (h, d))) A) args s 0 0 A) (F0 m 28 ls []) := by
    intro u
    induction u with
    | zero =>
      intro t j w g H locs ls ht hj hwf hg hfd hw hS hl
      refine lv_iload hx hb dX10_goesToFrame_28 (lv_at hl 0 rfl) ?_
      refine lv_bipush (v := 8) hx hb dX10_goesToFrame_30 (by decide) ?_
      refine lv_aload_n hx hb dX10_goesToFrame_32 rfl (lv_at hl 3 rfl) ?_
      refine h_get15 X hw dX10_goesToFrame_33 ?_
      refine lv_iadd hx hb dX10_goesToFrame_36 ?_
      refine lv_icmp_ge (tgt := 75) hx hb dX10_goesToFrame_37 (by decide) (fun c_1 => ?_) (fun c_1 => ?_)
      · skip
        have c_1n : t ≥ (8 + d) := ngeT (a := t) (b := 8 + d) hj (nadd (a := 8) (b := d) rfl rfl) (by omega) (by omega) c_1
        have c_1m : ¬ t < (8 + d) := by omega
        refine lv_iload hx hb dX10_goesToFrame_75 (lv_at hl 1 rfl) ?_
        exact m_zret (b := p_gtf x (40 * k + ii) (h, d)) X hr hlk hw hS (Nat.zero_le _) (Nat.zero_le _) (by have e7 : p_gtf x (40 * k + ii) (h, d) = p_allgo h (fun j => x.2.1 8 (16 * (40 * k + ii) + j)) (8 + d) := (by simp [p_gtf, hfd]); rw [e7]; first | (have e9 : t = 8 + d := (by omega); rw [← e9, hg]; done) | (have e8 := p_allgo_f (hg.symm.trans c_1n) u; rw [show t + u = 8 + d by omega] at e8; rw [e8]; rw [c_1n]; done) | (have e8 := p_allgo_f (hg.symm.trans c_1n) (u + 1); rw [show t + (u + 1) = 8 + d by omega] at e8; rw [e8]; rw [c_1n]; done)) ⟨rfl, rfl, rfl⟩ dX10_goesToFrame_77
      · skip
        have c_1n : ¬ t ≥ (8 + d) := ngeF (a := t) (b := 8 + d) hj (nadd (a := 8) (b := d) rfl rfl) (by omega) (by omega) c_1
        have c_1m : t < (8 + d) := by omega
        refine lv_iload hx hb dX10_goesToFrame_40 (lv_at hl 1 rfl) ?_
        refine lv_if_eq (tgt := 75) hx hb dX10_goesToFrame_42 (by decide) (fun c_2 => ?_) (fun c_2 => ?_)
        · skip
          have c_2 := bI_f c_2
          refine lv_iload hx hb dX10_goesToFrame_75 (lv_at hl 1 rfl) ?_
          exact m_zret (b := p_gtf x (40 * k + ii) (h, d)) X hr hlk hw hS (Nat.zero_le _) (Nat.zero_le _) (by have e7 : p_gtf x (40 * k + ii) (h, d) = p_allgo h (fun j => x.2.1 8 (16 * (40 * k + ii) + j)) (8 + d) := (by simp [p_gtf, hfd]); rw [e7]; first | (have e9 : t = 8 + d := (by omega); rw [← e9, hg]; done) | (have e8 := p_allgo_f (hg.symm.trans c_2) u; rw [show t + u = 8 + d by omega] at e8; rw [e8]; rw [c_2]; done) | (have e8 := p_allgo_f (hg.symm.trans c_2) (u + 1); rw [show t + (u + 1) = 8 + d by omega] at e8; rw [e8]; rw [c_2]; done)) ⟨rfl, rfl, rfl⟩ dX10_goesToFrame_77
        · skip
          have c_2 := bI_t c_2
          refine lv_aload_n hx hb dX10_goesToFrame_45 rfl (lv_at hl 3 rfl) ?_
          refine r_get14 X hw dX10_goesToFrame_46 ?_
          refine lv_iload hx hb dX10_goesToFrame_49 (lv_at hl 0 rfl) ?_
          refine h_ald14 (n := t) X hw hj (by omega) dX10_goesToFrame_51 ?_
          refine lv_aload_n hx hb dX10_goesToFrame_52 rfl (lv_at hl 3 rfl) ?_
          refine r_get8 X hw dX10_goesToFrame_53 ?_
          refine lv_bipush (v := 16) hx hb dX10_goesToFrame_56 (by decide) ?_
          refine lv_iload_n hx hb dX10_goesToFrame_58 rfl (lv_at hl 2 rfl) ?_
          refine lv_imul hx hb dX10_goesToFrame_59 ?_
          refine lv_iload hx hb dX10_goesToFrame_60 (lv_at hl 0 rfl) ?_
          refine lv_iadd hx hb dX10_goesToFrame_62 ?_
          refine h_ald8 (n := (16 * (40 * k + ii)) + t) X hw (nadd (a := 16 * (40 * k + ii)) (b := t) (nmul (a := 16) (b := 40 * k + ii) rfl hwf) hj) (by omega) dX10_goesToFrame_63 ?_
          refine m_calli (m_runS (As := [.int (h t), .int (x.2.1 8 ((16 * (40 * k + ii)) + t))]) (rest := []) X (k_X10_goes Γ l L (rM Γ L (sH x (h, d))) (h t) (x.2.1 8 ((16 * (40 * k + ii)) + t))) s_X10_goes ml_X10_125 hw hS rfl hl.1 ⟨Nat.le_of_ble_eq_true rfl, Nat.le_of_ble_eq_true rfl⟩ (Nat.le_of_ble_eq_true rfl) ⟨Nat.le_of_ble_eq_true rfl, Nat.le_of_ble_eq_true rfl⟩ dX10_goesToFrame_64) hS (fun r_4 L1 M1 H locs hp_3 hw hS => ?_)
          obtain ⟨rfl, e1, e2⟩ := hp_3
          rw [e1, e2] at hw; clear e1 e2
          refine lv_istore (lv' := [(4, .int (bI (r_goes (h t) (x.2.1 8 ((16 * (40 * k + ii)) + t))))), (5, .int j), (3, .int w), (0, .ref (L (.inl 0))), (1, .int a), (2, .int b)]) hx hb dX10_goesToFrame_67 hl (by decide) rfl (fun ls hl => ?_)
          refine lv_iinc (v := j + 1) (lv' := [(5, .int (j + 1)), (4, .int (bI (r_goes (h t) (x.2.1 8 ((16 * (40 * k + ii)) + t))))), (3, .int w), (0, .ref (L (.inl 0))), (1, .int a), (2, .int b)]) hx hb dX10_goesToFrame_69 hl (k := 1) rfl rfl (by decide) rfl (fun ls hl => ?_)
          refine lv_goto (tgt := 28) hx hb dX10_goesToFrame_72 (by decide) ?_
          exact absurd ht (by omega)
    | succ u ih =>
      intro t j w g H locs ls ht hj hwf hg hfd hw hS hl
      refine lv_iload hx hb dX10_goesToFrame_28 (lv_at hl 0 rfl) ?_
      refine lv_bipush (v := 8) hx hb dX10_goesToFrame_30 (by decide) ?_
      refine lv_aload_n hx hb dX10_goesToFrame_32 rfl (lv_at hl 3 rfl) ?_
      refine h_get15 X hw dX10_goesToFrame_33 ?_
      refine lv_iadd hx hb dX10_goesToFrame_36 ?_
      refine lv_icmp_ge (tgt := 75) hx hb dX10_goesToFrame_37 (by decide) (fun c_5 => ?_) (fun c_5 => ?_)
      · skip
        have c_5n : t ≥ (8 + d) := ngeT (a := t) (b := 8 + d) hj (nadd (a := 8) (b := d) rfl rfl) (by omega) (by omega) c_5
        have c_5m : ¬ t < (8 + d) := by omega
        refine lv_iload hx hb dX10_goesToFrame_75 (lv_at hl 1 rfl) ?_
        exact m_zret (b := p_gtf x (40 * k + ii) (h, d)) X hr hlk hw hS (Nat.zero_le _) (Nat.zero_le _) (by have e7 : p_gtf x (40 * k + ii) (h, d) = p_allgo h (fun j => x.2.1 8 (16 * (40 * k + ii) + j)) (8 + d) := (by simp [p_gtf, hfd]); rw [e7]; first | (have e9 : t = 8 + d := (by omega); rw [← e9, hg]; done) | (have e8 := p_allgo_f (hg.symm.trans c_5n) u; rw [show t + u = 8 + d by omega] at e8; rw [e8]; rw [c_5n]; done) | (have e8 := p_allgo_f (hg.symm.trans c_5n) (u + 1); rw [show t + (u + 1) = 8 + d by omega] at e8; rw [e8]; rw [c_5n]; done)) ⟨rfl, rfl, rfl⟩ dX10_goesToFrame_77
      · skip
        have c_5n : ¬ t ≥ (8 + d) := ngeF (a := t) (b := 8 + d) hj (nadd (a := 8) (b := d) rfl rfl) (by omega) (by omega) c_5
        have c_5m : t < (8 + d) := by omega
        refine lv_iload hx hb dX10_goesToFrame_40 (lv_at hl 1 rfl) ?_
        refine lv_if_eq (tgt := 75) hx hb dX10_goesToFrame_42 (by decide) (fun c_6 => ?_) (fun c_6 => ?_)
        · skip
          have c_6 := bI_f c_6
          refine lv_iload hx hb dX10_goesToFrame_75 (lv_at hl 1 rfl) ?_
          exact m_zret (b := p_gtf x (40 * k + ii) (h, d)) X hr hlk hw hS (Nat.zero_le _) (Nat.zero_le _) (by have e7 : p_gtf x (40 * k + ii) (h, d) = p_allgo h (fun j => x.2.1 8 (16 * (40 * k + ii) + j)) (8 + d) := (by simp [p_gtf, hfd]); rw [e7]; first | (have e9 : t = 8 + d := (by omega); rw [← e9, hg]; done) | (have e8 := p_allgo_f (hg.symm.trans c_6) u; rw [show t + u = 8 + d by omega] at e8; rw [e8]; rw [c_6]; done) | (have e8 := p_allgo_f (hg.symm.trans c_6) (u + 1); rw [show t + (u + 1) = 8 + d by omega] at e8; rw [e8]; rw [c_6]; done)) ⟨rfl, rfl, rfl⟩ dX10_goesToFrame_77
        · skip
          have c_6 := bI_t c_6
          refine lv_aload_n hx hb dX10_goesToFrame_45 rfl (lv_at hl 3 rfl) ?_
          refine r_get14 X hw dX10_goesToFrame_46 ?_
          refine lv_iload hx hb dX10_goesToFrame_49 (lv_at hl 0 rfl) ?_
          refine h_ald14 (n := t) X hw hj (by omega) dX10_goesToFrame_51 ?_
          refine lv_aload_n hx hb dX10_goesToFrame_52 rfl (lv_at hl 3 rfl) ?_
          refine r_get8 X hw dX10_goesToFrame_53 ?_
          refine lv_bipush (v := 16) hx hb dX10_goesToFrame_56 (by decide) ?_
          refine lv_iload_n hx hb dX10_goesToFrame_58 rfl (lv_at hl 2 rfl) ?_
          refine lv_imul hx hb dX10_goesToFrame_59 ?_
          refine lv_iload hx hb dX10_goesToFrame_60 (lv_at hl 0 rfl) ?_
          refine lv_iadd hx hb dX10_goesToFrame_62 ?_
          refine h_ald8 (n := (16 * (40 * k + ii)) + t) X hw (nadd (a := 16 * (40 * k + ii)) (b := t) (nmul (a := 16) (b := 40 * k + ii) rfl hwf) hj) (by omega) dX10_goesToFrame_63 ?_
          refine m_calli (m_runS (As := [.int (h t), .int (x.2.1 8 ((16 * (40 * k + ii)) + t))]) (rest := []) X (k_X10_goes Γ l L (rM Γ L (sH x (h, d))) (h t) (x.2.1 8 ((16 * (40 * k + ii)) + t))) s_X10_goes ml_X10_125 hw hS rfl hl.1 ⟨Nat.le_of_ble_eq_true rfl, Nat.le_of_ble_eq_true rfl⟩ (Nat.le_of_ble_eq_true rfl) ⟨Nat.le_of_ble_eq_true rfl, Nat.le_of_ble_eq_true rfl⟩ dX10_goesToFrame_64) hS (fun r_8 L1 M1 H locs hp_7 hw hS => ?_)
          obtain ⟨rfl, e1, e2⟩ := hp_7
          rw [e1, e2] at hw; clear e1 e2
          refine lv_istore (lv' := [(4, .int (bI (r_goes (h t) (x.2.1 8 ((16 * (40 * k + ii)) + t))))), (5, .int j), (3, .int w), (0, .ref (L (.inl 0))), (1, .int a), (2, .int b)]) hx hb dX10_goesToFrame_67 hl (by decide) rfl (fun ls hl => ?_)
          refine lv_iinc (v := j + 1) (lv' := [(5, .int (j + 1)), (4, .int (bI (r_goes (h t) (x.2.1 8 ((16 * (40 * k + ii)) + t))))), (3, .int w), (0, .ref (L (.inl 0))), (1, .int a), (2, .int b)]) hx hb dX10_goesToFrame_69 hl (k := 1) rfl rfl (by decide) rfl (fun ls hl => ?_)
          refine lv_goto (tgt := 28) hx hb dX10_goesToFrame_72 (by decide) ?_
          exact ih (t + 1) _ _ _ H locs ls (by omega) (nadd (a := t) (b := 1) hj rfl) hwf (by show _ = (p_allgo h (fun j => x.2.1 8 (16 * (40 * k + ii) + j)) t && _); rw [← hg, c_6]; rfl) hfd hw hS hl
  refine lv_bipush (v := 40) hx hb dX10_goesToFrame_0 (by decide) ?_
  refine lv_iload_n hx hb dX10_goesToFrame_2 rfl (lv_at hl 1 rfl) ?_
  refine lv_imul hx hb dX10_goesToFrame_3 ?_
  refine lv_iload_n hx hb dX10_goesToFrame_4 rfl (lv_at hl 2 rfl) ?_
  refine lv_iadd hx hb dX10_goesToFrame_5 ?_
  refine lv_istore_n (lv' := [(3, .int ((40 * a) + b)), (0, .ref (L (.inl 0))), (1, .int a), (2, .int b)]) hx hb dX10_goesToFrame_6 rfl hl (by decide) rfl (fun ls hl => ?_)
  refine lv_aload_n hx hb dX10_goesToFrame_7 rfl (lv_at hl 1 rfl) ?_
  refine r_get7 X hw dX10_goesToFrame_8 ?_
  refine lv_iload_n hx hb dX10_goesToFrame_11 rfl (lv_at hl 0 rfl) ?_
  refine h_ald7 (n := (40 * k) + ii) X hw (nadd (a := 40 * k) (b := ii) (nmul (a := 40) (b := k) rfl ha) hbi) (by omega) dX10_goesToFrame_12 ?_
  refine lv_aload_n hx hb dX10_goesToFrame_13 rfl (lv_at hl 1 rfl) ?_
  refine h_get15 X hw dX10_goesToFrame_14 ?_
  refine lv_icmp_eq (tgt := 22) hx hb dX10_goesToFrame_17 (by decide) (fun c_9 => ?_) (fun c_9 => ?_)
  · skip
    refine lv_iconst (v := 1) hx hb dX10_goesToFrame_22 (by decide) ?_
    refine lv_istore (lv' := [(4, .int 1), (3, .int ((40 * a) + b)), (0, .ref (L (.inl 0))), (1, .int a), (2, .int b)]) hx hb dX10_goesToFrame_23 hl (by decide) rfl (fun ls hl => ?_)
    refine lv_iconst (v := 0) hx hb dX10_goesToFrame_25 (by decide) ?_
    refine lv_istore (lv' := [(5, .int 0), (4, .int 1), (3, .int ((40 * a) + b)), (0, .ref (L (.inl 0))), (1, .int a), (2, .int b)]) hx hb dX10_goesToFrame_26 hl (by decide) rfl (fun ls hl => ?_)
    exact K28 (8 + d) 0 _ _ true _ _ ls (by omega) rfl (nadd (a := 40 * k) (b := ii) (nmul (a := 40) (b := k) rfl ha) hbi) rfl (by assumption) hw hS hl
  · skip
    refine lv_iconst (v := 0) hx hb dX10_goesToFrame_20 (by decide) ?_
    exact m_zret (b := p_gtf x (40 * k + ii) (h, d)) X hr hlk hw hS (Nat.zero_le _) (Nat.zero_le _) (by clear hb hx hl hS hw hnm hlk hr X; simp_all [p_gtf, bI]) ⟨rfl, rfl, rfl⟩ dX10_goesToFrame_21
