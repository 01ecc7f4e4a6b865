/-! THE REFERENCE: a run -/
theorem CK_J {x y : RS} {k n : Nat} {v : Int64} (h : CK x y) (hk : k ≠ 4) : CK x (sJ y k n v) := ⟨h.1, h.2.1, (sJ_o (fun z => hk z.symm)).trans h.2.2⟩
/-- a typing of METHOD k -/
def Tk (x : RS) (k : Nat) (τ : (Nat → Nat) × (Nat → Nat → Int32) × (Nat → Prop)) : Prop := Ty (x, (fun _ => τ.1), (fun _ => τ.2.1), (fun _ => τ.2.2), fun _ => True) k
theorem ev_ex {x : RS} {m0 : Nat} (h : qR x m0) (hm : m0 < 8) (hR : ∀ k, k ≤ m0 → rq x k) (hT : ∀ k, k ≤ m0 → x.2.1 9 k ≠ 0 → ∃ τ, Tk x k τ) : ∃ E : Ev, E.1 = x ∧ EO E ∧ eR E m0 := by
  obtain ⟨R, r0, rc⟩ := h
  have ex : ∀ k, ∃ τ, R k → Tk x k τ := by
    intro k
    by_cases c : R k
    · obtain ⟨τ, ht⟩ := hT k (rc k c).1 (rc k c).2.1
      exact ⟨τ, fun _ => ht⟩
    · exact ⟨(fun _ => 0, fun _ _ => 0, fun _ => True), fun z => absurd z c⟩
  obtain ⟨τ, ht⟩ := Classical.axiomOfChoice ex
  refine ⟨(x, (fun k => (τ k).1), (fun k => (τ k).2.1), (fun k => (τ k).2.2), R), rfl, fun k hk => ?_, r0⟩
  have hk : R k := hk
  obtain ⟨a, b, c⟩ := rc k hk
  exact ⟨by omega, hR k a, ht k hk, c⟩
theorem MI_start {E : Ev} {y : RS} {m0 : Nat} (hE : EO E) (hR : eR E m0) (hm : m0 < 8) (hC : CK E.1 y) (h22 : y.1 22 = nI 0) (h20 : y.2.1 20 0 = nI m0) (h21 : y.2.1 21 0 = nI 0) (h19 : y.2.1 19 0 = nI 0) (h23 : y.1 23 = nI 0) : MI E y 0 0 := by
  obtain ⟨-, -, t1, -⟩ := hE m0 hR
  obtain ⟨t1, t2, t3, t4, -⟩ := t1
  refine ⟨hC, fun l hl => by omega, m0, 0, ⟨h20, h21, hR, t1, t2, by omega, fun p hp => by rw [t4 p hp]; trivial⟩, ⟨h22, by omega, by rw [t3]; exact h19, by rw [t3]; exact Nat.zero_le _, ⟨h23, by omega, fun t ht => by omega⟩, fun p hp => ?_⟩⟩
  have hp : p < 8 + eD E m0 0 := hp
  rw [t3] at hp
  show VT 0 _ (vc (eT E m0 0 p)) _
  rw [t4 p (by omega)]
  trivial
theorem MI_S {E : Ev} {x : RS} {f mk k : Nat} {v : Int32} (h : MI E x f mk) (hk : 24 ≤ k) : MI E (sS x k v) f mk := by
  obtain ⟨h1, h2, m, i, h3, ⟨v1, v2, v3, v4, v5, v6⟩⟩ := h
  exact ⟨CK_S h1 (by omega), h2, m, i, h3, ⟨by rw [sS_o (by omega)]; exact v1, v2, v3, v4, TH_S v5 (by omega), v6⟩⟩
theorem v_X10_run : mVm yX10_run cX10_run 7 (some .int) 5 := ⟨cd_X10_run, im_X10_run, se_X10_run, ini_X10, by decide, by decide, by decide +kernel⟩
set_option maxHeartbeats 4000000 in
set_option maxRecDepth 100000 in
theorem k_X10_run (Γ : mG) (l : Launch) (L : mI → Nat) (x : RS) (a b d1 d2 d3 : Int32) (n : Nat) (hnn : x.1 0 = nI n) (h8 : n ≤ 8) (hR : ∀ k, k < n → rq x k) (hT : ∀ k, k < n → x.2.1 9 k ≠ 0 → ∃ τ, Tk x k τ) : mMet Γ l yX10_run cX10_run 7 (some .int) { frames := 5, cells := 0, slots := 0, locals := 118 } [.ref (L (.inl 0)), .int a, .int b, .int d1, .int d2, .int d3] L (rM Γ L x) (mQi Γ (fun r L1 M1 => ∃ y : RS, L1 = L ∧ M1 = rM Γ L y ∧ CK x y)) := by
  refine m_start (by decide) (Nat.le_of_ble_eq_true rfl) ?_
  intro p e s m args below meth c A ls X hr hlk hnm hw hS hl
  have hx := X.1.1
  have hb := X.1.2.1
  have hl : lv_has ls 7 [(0, .ref (L (.inl 0))), (1, .int a), (2, .int b), (3, .int d1), (4, .int d2), (5, .int d3)] := hl
  refine lv_aload_n hx hb dX10_run_0 rfl (lv_at hl 0 rfl) ?_
  refine lv_iload_n hx hb dX10_run_1 rfl (lv_at hl 1 rfl) ?_
  refine m_calli (m_runV (i := .inl 0) (ci := 8) (As := [.int a]) (rest := []) X (k_X10_isMethod Γ l L x a n hnn h8) v_X10_isMethod ml_X10_130 hw hS rfl rfl rfl rfl hl.1 ⟨Nat.le_of_ble_eq_true rfl, Nat.le_of_ble_eq_true rfl⟩ (Nat.le_of_ble_eq_true rfl) ⟨Nat.le_of_ble_eq_true rfl, Nat.le_of_ble_eq_true rfl⟩ dX10_run_2) hS (fun r_2 L1 M1 H locs hp_1 hw hS => ?_)
  obtain ⟨rfl, e1, e2⟩ := hp_1
  rw [e1, e2] at hw; clear e1 e2
  refine lv_if_ne (tgt := 10) hx hb dX10_run_5 (by decide) (fun c_3 => ?_) (fun c_3 => ?_)
  · skip
    have c_3 := bI_t c_3
    obtain ⟨m0, hm, ha⟩ := isM_nat c_3
    refine lv_aload_n hx hb dX10_run_10 rfl (lv_at hl 0 rfl) ?_
    refine lv_iload_n hx hb dX10_run_11 rfl (lv_at hl 1 rfl) ?_
    refine m_calli (m_runV (i := .inl 0) (ci := 8) (As := [.int a]) (rest := []) X (k_X10_areRight Γ l L x a m0 ha (by omega) (fun k hk => hR k (by omega))) v_X10_areRight ml_X10_242 hw hS rfl rfl rfl rfl hl.1 ⟨Nat.le_of_ble_eq_true rfl, Nat.le_of_ble_eq_true rfl⟩ (Nat.le_of_ble_eq_true rfl) ⟨Nat.le_of_ble_eq_true rfl, Nat.le_of_ble_eq_true rfl⟩ dX10_run_12) hS (fun r_4 L1 M1 H locs hp_4 hw hS => ?_)
    obtain ⟨tt, er, e1, e2, hqr⟩ := hp_4
    rw [e1, e2] at hw; clear e1 e2
    subst er
    refine lv_if_ne (tgt := 21) hx hb dX10_run_15 (by decide) (fun c_5 => ?_) (fun c_5 => ?_)
    · skip
      have c_5 := bI_t c_5
      obtain ⟨E, hEx, hE, hRm⟩ := ev_ex (hqr c_5) (by omega) (fun k hk => hR k (by omega)) (fun k hk => hT k (by omega))
      have hCx : ∀ y, CK E.1 y → CK x y := fun y h9 => by rw [hEx] at h9; exact h9
      have KE : ∀ (en : Int32) (y : RS) (H : Heap) (locs : List Loc) (ls : Array Slot), ¬ en < 0 → CK E.1 y → mW Γ.1 vwCl A L (rM Γ L y) H → va_S A s.heap H locs → lv_has ls 7 [(6, .int en), (0, .ref (L (.inl 0)))] → W p l e { frames := 5, cells := 0, slots := 0, locals := 118 } s m args below meth c H locs 0 0 (MQ below (mQi Γ (fun r L1 M1 => ∃ y : RS, L1 = L ∧ M1 = rM Γ L y ∧ CK x y) A) args s 0 0 A) (F0 m 121 ls []) := by
        clear hw hS hl
        intro en y H locs ls hen hC hw hS hl
        refine lv_iload hx hb dX10_run_121 (lv_at hl 0 rfl) ?_
        refine lv_if_ge (tgt := 166) hx hb dX10_run_123 (by decide) (fun _ => ?_) (fun c => absurd (Int32.not_lt.mp hen) c)
        refine lv_iload hx hb dX10_run_166 (lv_at hl 0 rfl) ?_
        exact m_iret X hr hlk hw hS (Nat.zero_le _) (Nat.zero_le _) ⟨_, rfl, rfl, hCx _ hC⟩ dX10_run_168
      have K121 : ∀ (N dn : Nat) (y : RS) (en : Int32) (f mk : Nat) (H : Heap) (locs : List Loc) (ls : Array Slot), dn + N = 2000 → y.1 29 = nI dn → CK E.1 y → (en < 0 → MI E y f mk) → mW Γ.1 vwCl A L (rM Γ L y) H → va_S A s.heap H locs → lv_has ls 7 [(6, .int en), (0, .ref (L (.inl 0)))] → W p l e { frames := 5, cells := 0, slots := 0, locals := 118 } s m args below meth c H locs 0 0 (MQ below (mQi Γ (fun r L1 M1 => ∃ y : RS, L1 = L ∧ M1 = rM Γ L y ∧ CK x y) A) args s 0 0 A) (F0 m 121 ls []) := by
        clear hw hS hl
        intro N
        induction N with
        | zero =>
          intro dn y en f mk H locs ls hN h29 hC hMI hw hS hl
          by_cases hen : en < 0
          · skip
            refine lv_iload hx hb dX10_run_121 (lv_at hl 0 rfl) ?_
            refine lv_if_ge (tgt := 166) hx hb dX10_run_123 (by decide) (fun c => absurd hen (Int32.not_lt.mpr c)) (fun _ => ?_)
            refine lv_aload_n hx hb dX10_run_126 rfl (lv_at hl 1 rfl) ?_
            refine r_get29 X hw dX10_run_127 ?_
            refine lv_sipush (v := 2000) hx hb dX10_run_130 (by decide) ?_
            refine lv_icmp_ne (tgt := 143) hx hb dX10_run_133 (by decide) (fun c_6 => ?_) (fun c_6 => ?_)
            · skip
              have c_6n : ¬ dn = 2000 := nneT (a := dn) (b := 2000) h29 rfl (by omega) (by omega) c_6
              exact absurd hN (by omega)
            · skip
              have c_6n : dn = 2000 := nneF (a := dn) (b := 2000) h29 rfl (by omega) (by omega) c_6
              refine lv_bipush (v := 8) hx hb dX10_run_136 (by decide) ?_
              refine lv_istore (lv' := [(6, .int 8), (0, .ref (L (.inl 0)))]) hx hb dX10_run_138 hl (by decide) rfl (fun ls hl => ?_)
              refine lv_goto (tgt := 121) hx hb dX10_run_140 (by decide) ?_
              exact KE 8 y H locs ls (by decide) hC hw hS (lv_sub hl [0, 1] rfl)
          · exact KE en y H locs ls hen hC hw hS hl
        | succ N ih =>
          intro dn y en f mk H locs ls hN h29 hC hMI hw hS hl
          by_cases hen : en < 0
          · skip
            refine lv_iload hx hb dX10_run_121 (lv_at hl 0 rfl) ?_
            refine lv_if_ge (tgt := 166) hx hb dX10_run_123 (by decide) (fun c => absurd hen (Int32.not_lt.mpr c)) (fun _ => ?_)
            refine lv_aload_n hx hb dX10_run_126 rfl (lv_at hl 1 rfl) ?_
            refine r_get29 X hw dX10_run_127 ?_
            refine lv_sipush (v := 2000) hx hb dX10_run_130 (by decide) ?_
            refine lv_icmp_ne (tgt := 143) hx hb dX10_run_133 (by decide) (fun c_7 => ?_) (fun c_7 => ?_)
            · skip
              have c_7n : ¬ dn = 2000 := nneT (a := dn) (b := 2000) h29 rfl (by omega) (by omega) c_7
              refine lv_aload_n hx hb dX10_run_143 rfl (lv_at hl 1 rfl) ?_
              refine lv_dup hx hb dX10_run_144 rfl ?_
              refine r_get29 X hw dX10_run_145 ?_
              refine lv_iconst (v := 1) hx hb dX10_run_148 (by decide) ?_
              refine lv_iadd hx hb dX10_run_149 ?_
              refine lv_topi (fun v_8 ev_8 => ?_)
              obtain rfl : v_8 = nI (dn + 1) := ev_8.trans (nadd (a := dn) (b := 1) h29 rfl)
              clear ev_8
              refine r_put29 X hw hS dX10_run_150 (fun H locs hw hS => ?_)
              refine lv_aload_n hx hb dX10_run_153 rfl (lv_at hl 1 rfl) ?_
              refine lv_aload_n hx hb dX10_run_154 rfl (lv_at hl 1 rfl) ?_
              refine m_calli (m_runV (i := .inl 0) (ci := 8) (As := []) (rest := [.ref (L (.inl 0))]) X (k_X10_works Γ l L (sS y 29 (nI (dn + 1))) E f mk hE (MI_S (hMI hen) (by decide))) v_X10_works ml_X10_266 hw hS rfl rfl rfl rfl hl.1 ⟨Nat.le_of_ble_eq_true rfl, Nat.le_of_ble_eq_true rfl⟩ (Nat.le_of_ble_eq_true rfl) ⟨Nat.le_of_ble_eq_true rfl, Nat.le_of_ble_eq_true rfl⟩ dX10_run_155) hS (fun r_w L1 M1 H locs hp_w hw hS => ?_)
              obtain ⟨y1, f1, mk1, e1, e2, h29a, hcs⟩ := hp_w
              rw [e1, e2] at hw; clear e1 e2
              refine m_calli (m_runV (i := .inl 0) (ci := 8) (As := [.int r_w]) (rest := []) X (k_X10_after Γ l L y1 r_w E f1 mk1 hE hcs) v_X10_after ml_X10_270 hw hS rfl rfl rfl rfl hl.1 ⟨Nat.le_of_ble_eq_true rfl, Nat.le_of_ble_eq_true rfl⟩ (Nat.le_of_ble_eq_true rfl) ⟨Nat.le_of_ble_eq_true rfl, Nat.le_of_ble_eq_true rfl⟩ dX10_run_158) hS (fun r_a L1 M1 H locs hp_a hw hS => ?_)
              obtain ⟨y2, f2, mk2, e1, e2, h29b, hC2, hMI2⟩ := hp_a
              rw [e1, e2] at hw; clear e1 e2
              refine lv_istore (lv' := [(6, .int r_a), (0, .ref (L (.inl 0)))]) hx hb dX10_run_161 hl (by decide) rfl (fun ls hl => ?_)
              refine lv_goto (tgt := 121) hx hb dX10_run_163 (by decide) ?_
              exact ih (dn + 1) y2 r_a f2 mk2 H locs ls (by omega) (h29b.trans (h29a.trans (sS_k _ _ _))) hC2 hMI2 hw hS (lv_sub hl [0, 1] rfl)
            · skip
              have c_7n : dn = 2000 := nneF (a := dn) (b := 2000) h29 rfl (by omega) (by omega) c_7
              refine lv_bipush (v := 8) hx hb dX10_run_136 (by decide) ?_
              refine lv_istore (lv' := [(6, .int 8), (0, .ref (L (.inl 0)))]) hx hb dX10_run_138 hl (by decide) rfl (fun ls hl => ?_)
              refine lv_goto (tgt := 121) hx hb dX10_run_140 (by decide) ?_
              exact KE 8 y H locs ls (by decide) hC hw hS (lv_sub hl [0, 1] rfl)
          · exact KE en y H locs ls hen hC hw hS hl
      refine lv_aload_n hx hb dX10_run_21 rfl (lv_at hl 0 rfl) ?_
      refine lv_iconst (v := 1) hx hb dX10_run_22 (by decide) ?_
      refine r_put33 X hw hS rfl rfl dX10_run_23 (fun H locs hw hS => ?_)
      refine lv_aload_n hx hb dX10_run_26 rfl (lv_at hl 0 rfl) ?_
      refine lv_iconst (v := 0) hx hb dX10_run_27 (by decide) ?_
      refine r_put22 X hw hS dX10_run_28 (fun H locs hw hS => ?_)
      refine lv_aload_n hx hb dX10_run_31 rfl (lv_at hl 0 rfl) ?_
      refine r_get20 X hw dX10_run_32 ?_
      refine lv_iconst (v := 0) hx hb dX10_run_35 (by decide) ?_
      refine lv_iload_n hx hb dX10_run_36 rfl (lv_at hl 1 rfl) ?_
      refine lv_topi (fun v_9 ev_9 => ?_)
      obtain rfl : v_9 = nI (m0) := ev_9.trans ha
      clear ev_9
      refine r_ast20N (n := 0) X hw hS rfl (by omega) dX10_run_37 (fun H locs hw hS => ?_)
      refine lv_aload_n hx hb dX10_run_38 rfl (lv_at hl 0 rfl) ?_
      refine r_get21 X hw dX10_run_39 ?_
      refine lv_iconst (v := 0) hx hb dX10_run_42 (by decide) ?_
      refine lv_iconst (v := 0) hx hb dX10_run_43 (by decide) ?_
      refine r_ast21N (n := 0) X hw hS rfl (by omega) dX10_run_44 (fun H locs hw hS => ?_)
      refine lv_aload_n hx hb dX10_run_45 rfl (lv_at hl 0 rfl) ?_
      refine r_get19 X hw dX10_run_46 ?_
      refine lv_iconst (v := 0) hx hb dX10_run_49 (by decide) ?_
      refine lv_iconst (v := 0) hx hb dX10_run_50 (by decide) ?_
      refine r_ast19N (n := 0) X hw hS rfl (by omega) dX10_run_51 (fun H locs hw hS => ?_)
      refine lv_aload_n hx hb dX10_run_52 rfl (lv_at hl 0 rfl) ?_
      refine r_get18 X hw dX10_run_53 ?_
      refine lv_iconst (v := 0) hx hb dX10_run_56 (by decide) ?_
      refine lv_iload_n hx hb dX10_run_57 rfl (lv_at hl 2 rfl) ?_
      refine lv_i2l (v := b.toInt64) hx hb dX10_run_58 rfl ?_
      refine r_ast18N (n := 0) X hw hS rfl (by omega) dX10_run_59 (fun H locs hw hS => ?_)
      refine lv_aload_n hx hb dX10_run_60 rfl (lv_at hl 0 rfl) ?_
      refine r_get18 X hw dX10_run_61 ?_
      refine lv_iconst (v := 1) hx hb dX10_run_64 (by decide) ?_
      refine lv_iload_n hx hb dX10_run_65 rfl (lv_at hl 3 rfl) ?_
      refine lv_i2l (v := d1.toInt64) hx hb dX10_run_66 rfl ?_
      refine r_ast18N (n := 1) X hw hS rfl (by omega) dX10_run_67 (fun H locs hw hS => ?_)
      refine lv_aload_n hx hb dX10_run_68 rfl (lv_at hl 0 rfl) ?_
      refine r_get18 X hw dX10_run_69 ?_
      refine lv_iconst (v := 2) hx hb dX10_run_72 (by decide) ?_
      refine lv_iload hx hb dX10_run_73 (lv_at hl 4 rfl) ?_
      refine lv_i2l (v := d2.toInt64) hx hb dX10_run_75 rfl ?_
      refine r_ast18N (n := 2) X hw hS rfl (by omega) dX10_run_76 (fun H locs hw hS => ?_)
      refine lv_aload_n hx hb dX10_run_77 rfl (lv_at hl 0 rfl) ?_
      refine r_get18 X hw dX10_run_78 ?_
      refine lv_iconst (v := 3) hx hb dX10_run_81 (by decide) ?_
      refine lv_iload hx hb dX10_run_82 (lv_at hl 5 rfl) ?_
      refine lv_i2l (v := d3.toInt64) hx hb dX10_run_84 rfl ?_
      refine r_ast18N (n := 3) X hw hS rfl (by omega) dX10_run_85 (fun H locs hw hS => ?_)
      refine lv_aload_n hx hb dX10_run_86 rfl (lv_at hl 0 rfl) ?_
      refine lv_iconst (v := 0) hx hb dX10_run_87 (by decide) ?_
      refine r_put23 X hw hS dX10_run_88 (fun H locs hw hS => ?_)
      refine lv_aload_n hx hb dX10_run_91 rfl (lv_at hl 0 rfl) ?_
      refine lv_iconst (v := 0) hx hb dX10_run_92 (by decide) ?_
      refine r_put29 X hw hS dX10_run_93 (fun H locs hw hS => ?_)
      refine lv_aload_n hx hb dX10_run_96 rfl (lv_at hl 0 rfl) ?_
      refine lv_iconst (v := 0) hx hb dX10_run_97 (by decide) ?_
      refine r_put30 X hw hS dX10_run_98 (fun H locs hw hS => ?_)
      refine lv_aload_n hx hb dX10_run_101 rfl (lv_at hl 0 rfl) ?_
      refine lv_ldc (v := (-99999999)) hx hb X.1.2.2.2.1 (X.1.2.2.2.2 _ ki_X10_234) dX10_run_102 ?_
      refine r_put31 X hw hS dX10_run_104 (fun H locs hw hS => ?_)
      refine lv_aload_n hx hb dX10_run_107 rfl (lv_at hl 0 rfl) ?_
      refine lv_ldc (v := (-99999999)) hx hb X.1.2.2.2.1 (X.1.2.2.2.2 _ ki_X10_234) dX10_run_108 ?_
      refine r_put32 X hw hS dX10_run_110 (fun H locs hw hS => ?_)
      refine lv_aload_n hx hb dX10_run_113 rfl (lv_at hl 0 rfl) ?_
      refine lv_iconst (v := 0) hx hb dX10_run_114 (by decide) ?_
      refine r_put28 X hw hS dX10_run_115 (fun H locs hw hS => ?_)
      refine lv_iconst (v := (-1)) hx hb dX10_run_118 (by decide) ?_
      refine lv_istore (lv' := [(6, .int (-1)), (0, .ref (L (.inl 0))), (1, .int a), (2, .int b), (3, .int d1), (4, .int d2), (5, .int d3)]) hx hb dX10_run_119 hl (by decide) rfl (fun ls hl => ?_)
      exact K121 2000 0 (sS (sS (sS (sS (sS (sS (sJ (sJ (sJ (sJ (sA (sA (sA (sS (sS x 33 1) 22 0) 20 0 (nI (m0))) 21 0 0) 19 0 0) 18 0 b.toInt64) 18 1 d1.toInt64) 18 2 d2.toInt64) 18 3 d3.toInt64) 23 0) 29 0) 30 0) 31 (-99999999)) 32 (-99999999)) 28 0) _ 0 0 H locs ls (by omega) (by simp [sS, sA, sJ, upd, va_up, nI]) (by rw [hEx]; exact CK_S (CK_S (CK_S (CK_S (CK_S (CK_S (CK_J (CK_J (CK_J (CK_J (CK_A (CK_A (CK_A (CK_S (CK_S CK.rf (by decide)) (by decide)) (by decide)) (by decide)) (by decide)) (by decide)) (by decide)) (by decide)) (by decide)) (by decide)) (by decide)) (by decide)) (by decide)) (by decide)) (by decide)) (fun _ => MI_start hE hRm (by omega) (by rw [hEx]; exact CK_S (CK_S (CK_S (CK_S (CK_S (CK_S (CK_J (CK_J (CK_J (CK_J (CK_A (CK_A (CK_A (CK_S (CK_S CK.rf (by decide)) (by decide)) (by decide)) (by decide)) (by decide)) (by decide)) (by decide)) (by decide)) (by decide)) (by decide)) (by decide)) (by decide)) (by decide)) (by decide)) (by decide)) (by simp [sS, sA, sJ, upd, va_up, nI]) (by simp [sS, sA, sJ, upd, va_up, nI]) (by simp [sS, sA, sJ, upd, va_up, nI]) (by simp [sS, sA, sJ, upd, va_up, nI]) (by simp [sS, sA, sJ, upd, va_up, nI])) hw hS (lv_sub hl [0, 1] rfl)
    · skip
      have c_5 := bI_f c_5
      refine lv_bipush (v := (-2)) hx hb dX10_run_18 (by decide) ?_
      exact m_iret X hr hlk hw hS (Nat.zero_le _) (Nat.zero_le _) ⟨_, rfl, rfl, CK.rf⟩ dX10_run_20
  · skip
    have c_3 := bI_f c_3
    refine lv_iconst (v := (-1)) hx hb dX10_run_8 (by decide) ?_
    exact m_iret X hr hlk hw hS (Nat.zero_le _) (Nat.zero_le _) ⟨_, rfl, rfl, CK.rf⟩ dX10_run_9
