/-! THE REFERENCE: are they right -/
def qR (x : RS) (m0 : Nat) : Prop := ∃ R : Nat → Prop, R m0 ∧ ∀ k, R k → k ≤ m0 ∧ x.2.1 9 k ≠ 0 ∧ ∀ i, i < oM x k → x.2.1 3 (40 * k + i) = 33 → ∀ t, x.2.2 4 (40 * k + i) = lN t → t < k → R t
def qG (x : RS) (v : Int32) (k : Nat) : Prop := x.2.1 9 k ≠ 0 ∧ ∀ i, i < oM x k → x.2.1 3 (40 * k + i) = 33 → ∀ t, x.2.2 4 (40 * k + i) = lN t → t < k → bt v t = true
def qI (x : RS) (m0 n : Nat) (v : Int32) : Prop := bt v m0 = true ∧ ∀ k, n ≤ k → k ≤ m0 → bt v k = true → qG x v k
def qJ (x : RS) (m0 n : Nat) (v : Int32) (i : Nat) : Prop := bt v m0 = true ∧ (∀ k, n + 1 ≤ k → k ≤ m0 → bt v k = true → qG x v k) ∧ ∀ i9, i9 < i → x.2.1 3 (40 * n + i9) = 33 → ∀ t, x.2.2 4 (40 * n + i9) = lN t → t < n → bt v t = true
theorem qI_R {x : RS} {m0 : Nat} {v : Int32} (h : qI x m0 0 v) : qR x m0 := by
  refine ⟨fun k => k ≤ m0 ∧ bt v k = true, ⟨Nat.le_refl _, h.1⟩, fun k hk => ⟨hk.1, ?_⟩⟩
  obtain ⟨a, b⟩ := h.2 k (Nat.zero_le _) hk.1 hk.2
  exact ⟨a, fun i hi ho t ht htk => ⟨by have := hk.1; omega, b i hi ho t ht htk⟩⟩
theorem qI_dn {x : RS} {m0 n : Nat} {v : Int32} (h : qI x m0 (n + 1) v) (hb : bt v n = false) : qI x m0 n v := by
  refine ⟨h.1, fun k a b c => ?_⟩
  by_cases w : k = n
  · subst w; rw [hb] at c; cases c
  · exact h.2 k (by omega) b c
theorem qJ_0 {x : RS} {m0 n : Nat} {v : Int32} (h : qI x m0 (n + 1) v) : qJ x m0 n v 0 := ⟨h.1, h.2, fun i hi => by omega⟩
theorem qJ_e {x : RS} {m0 n i : Nat} {v : Int32} (h : qJ x m0 n v i) (hi : i = oM x n) (hr : x.2.1 9 n ≠ 0) : qI x m0 n v := by
  refine ⟨h.1, fun k a b c => ?_⟩
  by_cases w : k = n
  · subst w; exact ⟨hr, fun j hj => h.2.2 j (by omega)⟩
  · exact h.2.1 k (by omega) b c
theorem qJ_no {x : RS} {m0 n i : Nat} {v : Int32} (h : qJ x m0 n v i) (hn : x.2.1 3 (40 * n + i) = 33 → ∀ t, x.2.2 4 (40 * n + i) = lN t → t < n → False) : qJ x m0 n v (i + 1) := by
  refine ⟨h.1, h.2.1, fun j hj a t b c => ?_⟩
  by_cases w : j = i
  · subst w; exact (hn a t b c).elim
  · exact h.2.2 j (by omega) a t b c
theorem bt_up {v w c : Int32} {t k : Nat} (e : w = v ||| (1 <<< (c &&& 31))) (hc : c = nI t) (ht : t < 8) (hk : k < 8) : bt w k = (bt v k || decide (k = t)) := by
  rw [e, hc, bt_or, bt_1 t ht k hk]
theorem qJ_up {x : RS} {m0 n i t : Nat} {v w c : Int32} (h : qJ x m0 n v i) (e : w = v ||| (1 <<< (c &&& 31))) (hc : c = nI t) (htn : t < n) (hn : n ≤ m0) (hm : m0 < 8) (ha : x.2.2 4 (40 * n + i) = lN t) : qJ x m0 n w (i + 1) := by
  have up : ∀ k, k < 8 → bt v k = true → bt w k = true := fun k hk hb => by rw [bt_up e hc (by omega) hk, hb]; rfl
  refine ⟨up _ hm h.1, fun k a b hb => ?_, fun j hj a u b c9 => ?_⟩
  · rw [bt_up e hc (by omega) (by omega), decide_eq_false (by omega), Bool.or_false] at hb
    obtain ⟨g1, g2⟩ := h.2.1 k a b hb
    exact ⟨g1, fun j hj ho u hu huk => up u (by omega) (g2 j hj ho u hu huk)⟩
  · by_cases w9 : j = i
    · subst w9
      rw [ha] at b
      have hut : u = t := by
        have := congrArg Int64.toInt b
        rw [lN_toInt (by omega), lN_toInt (by omega)] at this
        omega
      rw [hut, bt_up e hc (by omega) (by omega), decide_eq_true rfl, Bool.or_true]
    · exact up u (by omega) (h.2.2 j (by omega) a u b c9)
theorem isL_t {n t : Nat} (hn : n < 1000) (ht : t < n) : p_isL n (lN t) = true := by
  unfold p_isL
  rw [r_isIn_iff, i64_toInt]
  have e : (nI n - 1).toInt = (n : Int) - 1 := pk_sub_toInt (a := n) (b := 1) (by omega) (by decide)
  have e0 : (0 : Int64).toInt = 0 := by decide
  rw [e, lN_toInt (by omega), e0]
  omega
theorem v_X10_areRight : mVm yX10_areRight cX10_areRight 5 (some .boolean) 1 := ⟨cd_X10_areRight, im_X10_areRight, se_X10_areRight, ini_X10, by decide, by decide, by decide +kernel⟩
set_option maxHeartbeats 4000000 in
set_option maxRecDepth 100000 in
theorem k_X10_areRight (Γ : mG) (l : Launch) (L : mI → Nat) (x : RS) (a : Int32) (m0 : Nat) (ha : a = nI m0) (hm8 : m0 < 8) (hR : ∀ k, k ≤ m0 → rq x k) : mMet Γ l yX10_areRight cX10_areRight 5 (some .boolean) { frames := 1, cells := 0, slots := 0, locals := 25 } [.ref (L (.inl 0)), .int a] L (rM Γ L x) (mQi Γ (fun r L1 M1 => ∃ t : Bool, r = bI t ∧ L1 = L ∧ M1 = rM Γ L x ∧ (t = true → qR x m0))) := by
  refine m_start (by decide) (Nat.le_of_ble_eq_true rfl) ?_
  intro p e s m args below meth c A ls X hr hlk hnm hw hS hl
  have hx := X.1.1
  have hb := X.1.2.1
  have hl : lv_has ls 5 [(0, .ref (L (.inl 0))), (1, .int a)] := hl
  have K6 : ∀ (n : Nat) (v j : Int32) (H : Heap) (locs : List Loc) (ls : Array Slot), n ≤ m0 + 1 → j = dj n → qI x m0 n v → mW Γ.1 vwCl A L (rM Γ L x) H → va_S A s.heap H locs → lv_has ls 5 [(3, .int j), (2, .int v), (0, .ref (L (.inl 0))), (1, .int a)] → W p l e { frames := 1, cells := 0, slots := 0, locals := 25 } s m args below meth c H locs 0 0 (MQ below (mQi Γ (fun r L1 M1 => ∃ t : Bool, r = bI t ∧ L1 = L ∧ M1 = rM Γ L x ∧ (t = true → qR x m0)) A) args s 0 0 A) (F0 m 6 ls []) := by
    clear hw hS hl
    intro n
    induction n with
    | zero =>
      intro v j H locs ls hn hj hI hw hS hl
      refine lv_iload_n hx hb dX10_areRight_6 rfl (lv_at hl 0 rfl) ?_
      refine lv_if_lt (tgt := 116) hx hb dX10_areRight_7 (by decide) (fun _ => ?_) (fun c => absurd (by rw [hj]; decide) c)
      refine lv_iconst (v := 1) hx hb dX10_areRight_116 (by decide) ?_
      exact m_zret (b := true) X hr hlk hw hS (Nat.zero_le _) (Nat.zero_le _) rfl ⟨true, rfl, rfl, rfl, fun _ => qI_R hI⟩ dX10_areRight_117
    | succ n ih =>
      intro v j H locs ls hn hj hI hw hS hl
      have hj : j = nI n := hj
      have K35 : x.2.1 9 n ≠ 0 → ∀ (u i : Nat) (v ii : Int32) (H : Heap) (locs : List Loc) (ls : Array Slot), i + u = oM x n → ii = nI i → qJ x m0 n v i → mW Γ.1 vwCl A L (rM Γ L x) H → va_S A s.heap H locs → lv_has ls 5 [(4, .int ii), (3, .int j), (2, .int v), (0, .ref (L (.inl 0))), (1, .int a)] → W p l e { frames := 1, cells := 0, slots := 0, locals := 25 } s m args below meth c H locs 0 0 (MQ below (mQi Γ (fun r L1 M1 => ∃ t : Bool, r = bI t ∧ L1 = L ∧ M1 = rM Γ L x ∧ (t = true → qR x m0)) A) args s 0 0 A) (F0 m 35 ls []) := by
        clear hw hS hl hI
        intro hrt u
        have ho40 := (hR n (by omega)).2.1
        induction u with
        | zero =>
          intro i v ii H locs ls hu hii hJ hw hS hl
          refine lv_iload hx hb dX10_areRight_35 (lv_at hl 0 rfl) ?_
          refine lv_aload_n hx hb dX10_areRight_37 rfl (lv_at hl 3 rfl) ?_
          refine r_get2 X hw dX10_areRight_38 ?_
          refine lv_iload_n hx hb dX10_areRight_41 rfl (lv_at hl 1 rfl) ?_
          refine r_ald2N (n := n) X hw hj (by omega) dX10_areRight_42 ?_
          refine lv_icmp_ge (tgt := 110) hx hb dX10_areRight_43 (by decide) (fun c_1 => ?_) (fun c_1 => ?_)
          · skip
            have c_1n : i ≥ (oM x n) := ngeT (a := i) (b := oM x n) hii (hR n (by omega)).1 (by omega) (by omega) c_1
            have c_1m : ¬ i < (oM x n) := by omega
            refine lv_iinc (v := j + (-1)) (lv' := [(3, .int (j + (-1))), (4, .int ii), (2, .int v), (0, .ref (L (.inl 0))), (1, .int a)]) hx hb dX10_areRight_110 hl (k := 1) rfl rfl (by decide) rfl (fun ls hl => ?_)
            refine lv_goto (tgt := 6) hx hb dX10_areRight_113 (by decide) ?_
            exact ih v _ H locs ls (by omega) (by rw [hj]; exact dj_dn n (by omega)) (qJ_e hJ (by omega) hrt) hw hS (lv_sub hl [0, 2, 3, 4] rfl)
          · skip
            have c_1n : ¬ i ≥ (oM x n) := ngeF (a := i) (b := oM x n) hii (hR n (by omega)).1 (by omega) (by omega) c_1
            have c_1m : i < (oM x n) := by omega
            exact absurd hu (by omega)
        | succ u ih2 =>
          intro i v ii H locs ls hu hii hJ hw hS hl
          refine lv_iload hx hb dX10_areRight_35 (lv_at hl 0 rfl) ?_
          refine lv_aload_n hx hb dX10_areRight_37 rfl (lv_at hl 3 rfl) ?_
          refine r_get2 X hw dX10_areRight_38 ?_
          refine lv_iload_n hx hb dX10_areRight_41 rfl (lv_at hl 1 rfl) ?_
          refine r_ald2N (n := n) X hw hj (by omega) dX10_areRight_42 ?_
          refine lv_icmp_ge (tgt := 110) hx hb dX10_areRight_43 (by decide) (fun c_2 => ?_) (fun c_2 => ?_)
          · skip
            have c_2n : i ≥ (oM x n) := ngeT (a := i) (b := oM x n) hii (hR n (by omega)).1 (by omega) (by omega) c_2
            have c_2m : ¬ i < (oM x n) := by omega
            exact absurd hu (by omega)
          · skip
            have c_2n : ¬ i ≥ (oM x n) := ngeF (a := i) (b := oM x n) hii (hR n (by omega)).1 (by omega) (by omega) c_2
            have c_2m : i < (oM x n) := by omega
            refine lv_aload_n hx hb dX10_areRight_46 rfl (lv_at hl 3 rfl) ?_
            refine r_get3 X hw dX10_areRight_47 ?_
            refine lv_bipush (v := 40) hx hb dX10_areRight_50 (by decide) ?_
            refine lv_iload_n hx hb dX10_areRight_52 rfl (lv_at hl 1 rfl) ?_
            refine lv_imul hx hb dX10_areRight_53 ?_
            refine lv_iload hx hb dX10_areRight_54 (lv_at hl 0 rfl) ?_
            refine lv_iadd hx hb dX10_areRight_56 ?_
            refine r_ald3N (n := (40 * n) + i) X hw (nadd (a := 40 * n) (b := i) (nmul (a := 40) (b := n) rfl hj) hii) (by omega) dX10_areRight_57 ?_
            refine lv_bipush (v := 33) hx hb dX10_areRight_58 (by decide) ?_
            refine lv_icmp_ne (tgt := 104) hx hb dX10_areRight_60 (by decide) (fun c_3 => ?_) (fun c_3 => ?_)
            · skip
              refine lv_iinc (v := ii + 1) (lv' := [(4, .int (ii + 1)), (3, .int j), (2, .int v), (0, .ref (L (.inl 0))), (1, .int a)]) hx hb dX10_areRight_104 hl (k := 0) rfl rfl (by decide) rfl (fun ls hl => ?_)
              refine lv_goto (tgt := 35) hx hb dX10_areRight_107 (by decide) ?_
              exact ih2 (i + 1) _ _ H locs ls (by omega) (nadd (a := i) (b := 1) hii rfl) (qJ_no hJ (by first | exact fun _ => hnn | exact fun e9 => absurd e9 (by assumption))) hw hS (lv_sub hl [0, 1, 2, 3, 4] rfl)
            · skip
              refine lv_aload_n hx hb dX10_areRight_63 rfl (lv_at hl 3 rfl) ?_
              refine r_get4 X hw dX10_areRight_64 ?_
              refine lv_bipush (v := 40) hx hb dX10_areRight_67 (by decide) ?_
              refine lv_iload_n hx hb dX10_areRight_69 rfl (lv_at hl 1 rfl) ?_
              refine lv_imul hx hb dX10_areRight_70 ?_
              refine lv_iload hx hb dX10_areRight_71 (lv_at hl 0 rfl) ?_
              refine lv_iadd hx hb dX10_areRight_73 ?_
              refine r_ald4N (n := (40 * n) + i) X hw (nadd (a := 40 * n) (b := i) (nmul (a := 40) (b := n) rfl hj) hii) (by omega) dX10_areRight_74 ?_
              refine lv_lconst (v := 0) hx hb dX10_areRight_75 (by decide) ?_
              refine lv_iload_n hx hb dX10_areRight_76 rfl (lv_at hl 1 rfl) ?_
              refine lv_iconst (v := 1) hx hb dX10_areRight_77 (by decide) ?_
              refine lv_isub hx hb dX10_areRight_78 ?_
              refine lv_i2l (v := (j - 1).toInt64) hx hb dX10_areRight_79 rfl ?_
              refine m_calli (m_runS (As := [.long (x.2.2 4 ((40 * n) + i)), .long 0, .long ((j - 1).toInt64)]) (rest := []) X (k_X10_isIn Γ l L (rM Γ L x) (x.2.2 4 ((40 * n) + i)) 0 ((j - 1).toInt64) ) s_X10_isIn ml_X10_79 hw hS rfl hl.1 ⟨Nat.le_of_ble_eq_true rfl, Nat.le_of_ble_eq_true rfl⟩ (Nat.le_of_ble_eq_true rfl) ⟨Nat.le_of_ble_eq_true rfl, Nat.le_of_ble_eq_true rfl⟩ dX10_areRight_80) hS (fun r_5 L1 M1 H locs hp_4 hw hS => ?_)
              obtain ⟨rfl, e1, e2⟩ := hp_4
              rw [e1, e2] at hw; clear e1 e2
              refine lv_if_eq (tgt := 104) hx hb dX10_areRight_83 (by decide) (fun c_6 => ?_) (fun c_6 => ?_)
              · skip
                have c_6 := bI_f c_6
                rw [hj] at c_6
                have hnn : ∀ t, x.2.2 4 (40 * n + i) = lN t → t < n → False := fun t h8 h9 => by have e9 := isL_t (by omega) h9; rw [← h8] at e9; exact absurd (e9.symm.trans c_6) (by decide)
                refine lv_iinc (v := ii + 1) (lv' := [(4, .int (ii + 1)), (3, .int j), (2, .int v), (0, .ref (L (.inl 0))), (1, .int a)]) hx hb dX10_areRight_104 hl (k := 0) rfl rfl (by decide) rfl (fun ls hl => ?_)
                refine lv_goto (tgt := 35) hx hb dX10_areRight_107 (by decide) ?_
                exact ih2 (i + 1) _ _ H locs ls (by omega) (nadd (a := i) (b := 1) hii rfl) (qJ_no hJ (by first | exact fun _ => hnn | exact fun e9 => absurd e9 (by assumption))) hw hS (lv_sub hl [0, 1, 2, 3, 4] rfl)
              · skip
                have c_6 := bI_t c_6
                rw [hj] at c_6
                obtain ⟨t, htn, hat⟩ := p_isL_nat (by omega) c_6
                refine lv_iload_n hx hb dX10_areRight_86 rfl (lv_at hl 2 rfl) ?_
                refine lv_iconst (v := 1) hx hb dX10_areRight_87 (by decide) ?_
                refine lv_aload_n hx hb dX10_areRight_88 rfl (lv_at hl 3 rfl) ?_
                refine r_get4 X hw dX10_areRight_89 ?_
                refine lv_bipush (v := 40) hx hb dX10_areRight_92 (by decide) ?_
                refine lv_iload_n hx hb dX10_areRight_94 rfl (lv_at hl 1 rfl) ?_
                refine lv_imul hx hb dX10_areRight_95 ?_
                refine lv_iload hx hb dX10_areRight_96 (lv_at hl 0 rfl) ?_
                refine lv_iadd hx hb dX10_areRight_98 ?_
                refine r_ald4N (n := (40 * n) + i) X hw (nadd (a := 40 * n) (b := i) (nmul (a := 40) (b := n) rfl hj) hii) (by omega) dX10_areRight_99 ?_
                refine lv_l2i (v := (x.2.2 4 ((40 * n) + i)).toInt32) hx hb dX10_areRight_100 rfl ?_
                refine lv_ishl hx hb dX10_areRight_101 ?_
                refine lv_ior hx hb dX10_areRight_102 ?_
                refine lv_topi (fun v3 ev3 => ?_)
                refine lv_istore_n (lv' := [(2, .int v3), (4, .int ii), (3, .int j), (0, .ref (L (.inl 0))), (1, .int a)]) hx hb dX10_areRight_103 rfl hl (by decide) rfl (fun ls hl => ?_)
                refine lv_iinc (v := ii + 1) (lv' := [(4, .int (ii + 1)), (2, .int v3), (3, .int j), (0, .ref (L (.inl 0))), (1, .int a)]) hx hb dX10_areRight_104 hl (k := 1) rfl rfl (by decide) rfl (fun ls hl => ?_)
                refine lv_goto (tgt := 35) hx hb dX10_areRight_107 (by decide) ?_
                exact ih2 (i + 1) _ _ H locs ls (by omega) (nadd (a := i) (b := 1) hii rfl) (qJ_up hJ ev3 ((congrArg Int64.toInt32 hat).trans (lN_i t)) htn (by omega) hm8 hat) hw hS (lv_sub hl [0, 2, 1, 3, 4] rfl)
      refine lv_iload_n hx hb dX10_areRight_6 rfl (lv_at hl 0 rfl) ?_
      refine lv_if_lt (tgt := 116) hx hb dX10_areRight_7 (by decide) (fun c_7 => ?_) (fun c_7 => ?_)
      · skip
        have c_7n : n < 0 := nltT (a := n) (b := 0) hj rfl (by omega) (by omega) c_7
        have c_7m : ¬ 0 ≤ n := by omega
        exact absurd c_7n (by omega)
      · skip
        have c_7n : ¬ n < 0 := nltF (a := n) (b := 0) hj rfl (by omega) (by omega) c_7
        have c_7m : 0 ≤ n := by omega
        refine lv_iload_n hx hb dX10_areRight_10 rfl (lv_at hl 1 rfl) ?_
        refine lv_iload_n hx hb dX10_areRight_11 rfl (lv_at hl 0 rfl) ?_
        refine lv_ishr hx hb dX10_areRight_12 ?_
        refine lv_iconst (v := 1) hx hb dX10_areRight_13 (by decide) ?_
        refine lv_iand hx hb dX10_areRight_14 ?_
        refine lv_if_ne (tgt := 21) hx hb dX10_areRight_15 (by decide) (fun c_8 => ?_) (fun c_8 => ?_)
        · skip
          rw [hj] at c_8
          have c_8 : bt v n = true := by cases hq9 : bt v n with | true => rfl | false => exact absurd ((bt_0 (by omega)).mpr hq9) c_8
          refine lv_aload_n hx hb dX10_areRight_21 rfl (lv_at hl 2 rfl) ?_
          refine r_get9 X hw dX10_areRight_22 ?_
          refine lv_iload_n hx hb dX10_areRight_25 rfl (lv_at hl 0 rfl) ?_
          refine r_ald9N (n := n) X hw hj (by omega) dX10_areRight_26 ?_
          refine lv_if_ne (tgt := 32) hx hb dX10_areRight_27 (by decide) (fun c_9 => ?_) (fun c_9 => ?_)
          · skip
            refine lv_iconst (v := 0) hx hb dX10_areRight_32 (by decide) ?_
            refine lv_istore (lv' := [(4, .int 0), (3, .int j), (2, .int v), (0, .ref (L (.inl 0))), (1, .int a)]) hx hb dX10_areRight_33 hl (by decide) rfl (fun ls hl => ?_)
            exact K35 c_9 (oM x n) 0 v _ H locs ls (by omega) rfl (qJ_0 hI) hw hS (lv_sub hl [0, 1, 2, 3, 4] rfl)
          · skip
            refine lv_iconst (v := 0) hx hb dX10_areRight_30 (by decide) ?_
            exact m_zret (b := false) X hr hlk hw hS (Nat.zero_le _) (Nat.zero_le _) rfl ⟨false, rfl, rfl, rfl, fun z => (by cases z)⟩ dX10_areRight_31
        · skip
          have c_8b : bt v n = false := (bt_0 (by omega)).mp (by rw [hj] at c_8; exact c_8)
          refine lv_goto (tgt := 110) hx hb dX10_areRight_18 (by decide) ?_
          refine lv_iinc (v := j + (-1)) (lv' := [(3, .int (j + (-1))), (2, .int v), (0, .ref (L (.inl 0))), (1, .int a)]) hx hb dX10_areRight_110 hl (k := 0) rfl rfl (by decide) rfl (fun ls hl => ?_)
          refine lv_goto (tgt := 6) hx hb dX10_areRight_113 (by decide) ?_
          exact ih v _ H locs ls (by omega) (by rw [hj]; exact dj_dn n (by omega)) (qI_dn hI c_8b) hw hS (lv_sub hl [0, 1, 2, 3] rfl)
  refine lv_iconst (v := 1) hx hb dX10_areRight_0 (by decide) ?_
  refine lv_iload_n hx hb dX10_areRight_1 rfl (lv_at hl 1 rfl) ?_
  refine lv_ishl hx hb dX10_areRight_2 ?_
  refine lv_istore_n (lv' := [(2, .int (1 <<< (a &&& 31))), (0, .ref (L (.inl 0))), (1, .int a)]) hx hb dX10_areRight_3 rfl hl (by decide) rfl (fun ls hl => ?_)
  refine lv_iload_n hx hb dX10_areRight_4 rfl (lv_at hl 2 rfl) ?_
  refine lv_istore_n (lv' := [(3, .int a), (2, .int (1 <<< (a &&& 31))), (0, .ref (L (.inl 0))), (1, .int a)]) hx hb dX10_areRight_5 rfl hl (by decide) rfl (fun ls hl => ?_)
  exact K6 (m0 + 1) (1 <<< (a &&& 31)) a _ _ ls (Nat.le_refl _) ha ⟨by rw [ha, bt_1 m0 hm8 m0 hm8]; simp, fun k h8 h9 => by omega⟩ hw hS (lv_sub hl [0, 1, 2, 3] rfl)
