/-! what an array of objects gives -/
section SR2
variable {p : Program} {l : Launch} {e : Env} {R : Room} {s : State} {m : MethodId} {args : Array Value} {below : List Frame} {meth : Method} {c : Code} {H : Heap} {locs : List Loc} {cells slots : Nat} {Q : State → Prop}
variable {cc : ByteArray} {pc nL : Nat} {ls : Array Slot} {rest : List Value} {Γ : mG} {A : Nat → Prop} {L : mI → Nat} {x : CS} {a b : Nat} {own : String}
theorem s_aaldS {n k t q : Nat} {C : String} {f : Nat → Option Nat} {i : Int32} (X : mX Γ p m c cc nL s args own A) (hw : mW Γ.1 vwCl A L (cM Γ L x) H) (ht : (mTy Γ)[t]? = some (Γ.2.1 t, .object C)) (hc : cel Γ L (cN x) (cF x) (cQ x) a b (x.1 a b) (x.2.1 a b) (x.2.2.1 a b) = some (aR Γ t n f)) (hi : i = nI k) (hk : k < n) (hn : n ≤ 640) (ho : f k = some q) (hdg : decode cc pc = .ok (.aaload, 1)) (kk : W p l e R s m args below meth c H locs cells slots Q (F0 m (pc + 1) ls (.ref q :: rest))) : W p l e R s m args below meth c H locs cells slots Q (F0 m pc ls (.int i :: .ref (L (nm a b)) :: rest)) := s_aald X hw ht hc hi hk hn ho hdg kk
theorem s_aaldN {n k t : Nat} {C : String} {f : Nat → Option Nat} {i : Int32} (X : mX Γ p m c cc nL s args own A) (hw : mW Γ.1 vwCl A L (cM Γ L x) H) (ht : (mTy Γ)[t]? = some (Γ.2.1 t, .object C)) (hc : cel Γ L (cN x) (cF x) (cQ x) a b (x.1 a b) (x.2.1 a b) (x.2.2.1 a b) = some (aR Γ t n f)) (hi : i = nI k) (hk : k < n) (hn : n ≤ 640) (ho : f k = none) (hdg : decode cc pc = .ok (.aaload, 1)) (kk : W p l e R s m args below meth c H locs cells slots Q (F0 m (pc + 1) ls (.null :: rest))) : W p l e R s m args below meth c H locs cells slots Q (F0 m pc ls (.int i :: .ref (L (nm a b)) :: rest)) := s_aald X hw ht hc hi hk hn ho hdg kk
end SR2
def dn (n : Nat) (j : Int32) : Prop := (n = 0 ∧ j = -1) ∨ ∃ k, n = k + 1 ∧ j = nI k
theorem dn_zero {j : Int32} (h : dn 0 j) : j = -1 := by
  rcases h with ⟨-, h⟩ | ⟨k, h, -⟩
  · exact h
  · omega
theorem dn_succ {n : Nat} {j : Int32} (h : dn (n + 1) j) : j = nI n := by
  rcases h with ⟨h, -⟩ | ⟨k, h, h2⟩
  · omega
  · obtain rfl : n = k := by omega
    exact h2
theorem at_no {n : Nat} {v : Int64} (hn : n ≤ 8) (h : v < 0 ∨ ¬ v < (nI n).toInt64) : ¬ (0 ≤ v.toInt ∧ v.toInt < n) := by
  have e0 : (0 : Int64).toInt = 0 := by decide
  have en : (nI n).toInt64.toInt = n := by rw [i64_toInt, nI_toInt (by omega)]
  rcases h with h | h
  · have := Int64.lt_iff_toInt_lt.mp h
    omega
  · have : ¬ v.toInt < (nI n).toInt64.toInt := fun z => h (Int64.lt_iff_toInt_lt.mpr z)
    omega
theorem dn_step {n : Nat} {j : Int32} (h : j = nI n) : dn n (j + (-1)) := by
  subst h
  cases n with
  | zero => exact Or.inl ⟨rfl, rfl⟩
  | succ k =>
    refine Or.inr ⟨k, rfl, ?_⟩
    rw [nI_succ, Int32.add_assoc]
    show nI k + (1 + -1) = nI k
    rw [show (1 : Int32) + -1 = 0 by decide, Int32.add_zero]
theorem dneg {v : Int32} (h : dOK v) (h0 : ¬ 0 ≤ v) : v = -1 := by
  rcases h with h | ⟨n, hn, rfl⟩
  · exact h
  · have e0 : (0 : Int32).toInt = 0 := by decide
    refine absurd ?_ h0
    rw [Int32.le_iff_toInt_le, nI_toInt (by omega)]
    omega
section RF
variable {p : Program} {l : Launch} {e : Env} {R : Room} {s : State} {m : MethodId} {args : Array Value} {below : List Frame} {meth : Method} {c : Code} {H : Heap} {locs : List Loc} {cells slots : Nat} {Q : State → Prop} {pc : Nat} {ls : Array Slot} {rest : List Value}
theorem va_rf_none (kk : W p l e R s m args below meth c H locs cells slots Q (F0 m pc ls (.null :: rest))) : W p l e R s m args below meth c H locs cells slots Q (F0 m pc ls (va_rf none :: rest)) := kk
theorem va_rf_some {q : Nat} (kk : W p l e R s m args below meth c H locs cells slots Q (F0 m pc ls (.ref q :: rest))) : W p l e R s m args below meth c H locs cells slots Q (F0 m pc ls (va_rf (some q) :: rest)) := kk
end RF
theorem v_X7_at : mVm yX7_at cX7_at 3 (some (.object "KindJudge$Code")) 1 := ⟨cd_X7_at, im_X7_at, se_X7_at, ini_X7, by decide, by decide, by decide +kernel⟩
set_option maxHeartbeats 4000000 in
set_option maxRecDepth 100000 in
theorem k_X7_at (Γ : mG) (l : Launch) (L : mI → Nat) (x : CS) (v : Int64) (h8 : cN x ≤ 8) : mMet Γ l yX7_at cX7_at 3 (some (.object "KindJudge$Code")) { frames := 0, cells := 0, slots := 0, locals := 0 } [.ref (L (nm 0 1)), .long v] L (cM Γ L x) (mQq Γ (fun q L1 M1 => L1 = L ∧ M1 = cM Γ L x ∧ ((q = none ∧ ¬ (0 ≤ v.toInt ∧ v.toInt < cN x)) ∨ ∃ k, k < cN x ∧ v = (nI k).toInt64 ∧ q = some (L (nm (k + 2) 0))))) := by
  refine m_start (by decide) (Nat.le_of_ble_eq_true rfl) ?_
  intro p e s m args below meth c A ls X hr hlk hnm hw hS hl
  have hx := X.1.1
  have hb := X.1.2.1
  have hl : lv_has ls 3 [(0, .ref (L (nm 0 1))), (1, .long v)] := hl
  refine lv_lload_n hx hb dX7_at_0 rfl (lv_at hl 1 rfl) ?_
  refine lv_lconst (v := 0) hx hb dX7_at_1 (by decide) ?_
  refine m_lcmp_lt (tgt := 26) hx hb dX7_at_2 dX7_at_3 (by decide) (fun c_1 => ?_) (fun c_1 => ?_)
  · skip
    refine lv_null hx hb dX7_at_26 ?_
    exact m_qret (v := none) X hr hlk hw hS (Nat.le_of_ble_eq_true rfl) (Nat.le_of_ble_eq_true rfl) ⟨rfl, rfl, Or.inl ⟨rfl, at_no h8 (by first | exact Or.inl (by assumption) | exact Or.inr (by assumption))⟩⟩ dX7_at_27
  · skip
    refine lv_lload_n hx hb dX7_at_6 rfl (lv_at hl 1 rfl) ?_
    refine lv_aload_n hx hb dX7_at_7 rfl (lv_at hl 0 rfl) ?_
    refine s_get (a := 0) (b := 1) (ci := 5) X hw rfl rfl gX7 1 (by decide) fl_X7_17 rfl rfl dX7_at_8 ?_
    refine lv_i2l (v := (nI (cN x)).toInt64) hx hb dX7_at_11 rfl ?_
    refine m_lcmp_ge (tgt := 26) hx hb dX7_at_12 dX7_at_13 (by decide) (fun c_2 => ?_) (fun c_2 => ?_)
    · skip
      refine lv_null hx hb dX7_at_26 ?_
      exact m_qret (v := none) X hr hlk hw hS (Nat.le_of_ble_eq_true rfl) (Nat.le_of_ble_eq_true rfl) ⟨rfl, rfl, Or.inl ⟨rfl, at_no h8 (by first | exact Or.inl (by assumption) | exact Or.inr (by assumption))⟩⟩ dX7_at_27
    · skip
      obtain ⟨kn, hkn, ekn, evn⟩ := l_nat (n := cN x) (by omega) (by assumption) (Classical.not_not.mp (by assumption))
      refine lv_aload_n hx hb dX7_at_16 rfl (lv_at hl 0 rfl) ?_
      refine s_get (a := 0) (b := 1) (ci := 5) X hw rfl rfl gX7 0 (by decide) fl_X7_13 rfl rfl dX7_at_17 ?_
      refine lv_lload_n hx hb dX7_at_20 rfl (lv_at hl 1 rfl) ?_
      refine lv_l2i (v := v.toInt32) hx hb dX7_at_21 rfl ?_
      refine s_aaldS (a := 0) (b := 2) (n := 8) (k := kn) (t := 3) (q := L (nm (kn + 2) 0)) X hw rfl rfl ekn (by omega) (by decide) (if_pos hkn) dX7_at_22 ?_
      refine lv_goto (tgt := 27) hx hb dX7_at_23 (by decide) ?_
      exact m_qret (v := some (L (nm (kn + 2) 0))) X hr hlk hw hS (Nat.le_of_ble_eq_true rfl) (Nat.le_of_ble_eq_true rfl) ⟨rfl, rfl, Or.inr ⟨kn, hkn, evn, rfl⟩⟩ dX7_at_27
theorem v_X0_frameOf : mVm yX0_frameOf cX0_frameOf 3 (some (.object "KindJudge$Places")) 1 := ⟨cd_X0_frameOf, im_X0_frameOf, se_X0_frameOf, ini_X0, by decide, by decide, by decide +kernel⟩
set_option maxHeartbeats 4000000 in
set_option maxRecDepth 100000 in
theorem k_X0_frameOf (Γ : mG) (l : Launch) (L : mI → Nat) (x : CS) (cm : Nat) (k : Int32) (hI : CInv x) (hm : cm < cN x) : mMet Γ l yX0_frameOf cX0_frameOf 3 (some (.object "KindJudge$Places")) { frames := 0, cells := 0, slots := 0, locals := 0 } [.ref (L (nm (cm + 2) 0)), .int k] L (cM Γ L x) (mQq Γ (fun q L1 M1 => L1 = L ∧ M1 = cM Γ L x ∧ ((q = none ∧ (k < 0 ∨ 40 ≤ k ∨ ∃ n, n < 40 ∧ k = nI n ∧ (cF x cm n = true → x.1 (cm + 2) (2 * n + 8) 1 = -1))) ∨ ∃ n d, n < 40 ∧ k = nI n ∧ cF x cm n = true ∧ d ≤ 8 ∧ x.1 (cm + 2) (2 * n + 8) 1 = nI d ∧ q = some (L (nm (cm + 2) (2 * n + 8)))))) := by
  refine m_start (by decide) (Nat.le_of_ble_eq_true rfl) ?_
  intro p e s m args below meth c A ls X hr hlk hnm hw hS hl
  have hx := X.1.1
  have hb := X.1.2.1
  have hl : lv_has ls 3 [(0, .ref (L (nm (cm + 2) 0))), (1, .int k)] := hl
  refine lv_iload_n hx hb dX0_frameOf_0 rfl (lv_at hl 1 rfl) ?_
  refine lv_if_lt (tgt := 10) hx hb dX0_frameOf_1 (by decide) (fun c_1 => ?_) (fun c_1 => ?_)
  · skip
    refine lv_null hx hb dX0_frameOf_10 ?_
    exact m_qret (v := none) X hr hlk hw hS (Nat.le_of_ble_eq_true rfl) (Nat.le_of_ble_eq_true rfl) ⟨rfl, rfl, Or.inl ⟨rfl, by first | exact Or.inl ‹k < 0› | exact Or.inr (Or.inl (Int32.not_lt.mp ‹¬ k < 40›)) | exact Or.inr (Or.inr ⟨kn, hkn, ek, fun z => absurd z hF⟩) | exact Or.inr (Or.inr ⟨kn, hkn, ek, fun _ => dneg (hI.2.2.1 _ _ (pOF hm hkn hF)) (by assumption)⟩)⟩⟩ dX0_frameOf_11
  · skip
    refine lv_iload_n hx hb dX0_frameOf_4 rfl (lv_at hl 1 rfl) ?_
    refine lv_bipush (v := 40) hx hb dX0_frameOf_5 (by decide) ?_
    refine lv_icmp_lt (tgt := 12) hx hb dX0_frameOf_7 (by decide) (fun c_2 => ?_) (fun c_2 => ?_)
    · skip
      obtain ⟨kn, hkn, ek⟩ := nat_ltN (n := 40) (by decide) (by assumption) (by assumption)
      refine lv_aload_n hx hb dX0_frameOf_12 rfl (lv_at hl 0 rfl) ?_
      refine s_get (a := cm + 2) (b := 0) (ci := 0) X hw (c_cell hm 0 _ _ _) rfl gX0 10 (by decide) fl_X0_33 rfl rfl dX0_frameOf_13 ?_
      refine lv_iload_n hx hb dX0_frameOf_16 rfl (lv_at hl 1 rfl) ?_
      by_cases hF : cF x cm kn = true
      · skip
        refine s_aaldS (a := cm + 2) (b := 7) (n := 40) (k := kn) (t := 4) (q := L (nm (cm + 2) (2 * kn + 8))) X hw rfl (c_cell hm 7 _ _ _) ek (by omega) (by decide) (if_pos hF) dX0_frameOf_17 ?_
        refine lv_astore_n (lv' := [(2, .ref (L (nm (cm + 2) (2 * kn + 8)))), (0, .ref (L (nm (cm + 2) 0))), (1, .int k)]) hx hb dX0_frameOf_18 rfl hl (by decide) rfl (fun ls hl => ?_)
        refine lv_aload_n hx hb dX0_frameOf_19 rfl (lv_at hl 0 rfl) ?_
        refine lv_ifnull hx hb dX0_frameOf_20 ?_
        refine lv_aload_n hx hb dX0_frameOf_23 rfl (lv_at hl 0 rfl) ?_
        refine q_getd X hw (pOF hm hkn hF) fl_X0_59 rfl dX0_frameOf_24 ?_
        refine lv_if_ge (tgt := 34) hx hb dX0_frameOf_27 (by decide) (fun c_3 => ?_) (fun c_3 => ?_)
        · skip
          obtain ⟨dn_, hdn, edn⟩ := dnat (hI.2.2.1 _ _ (pOF hm hkn hF)) (Int32.not_lt.mpr c_3)
          refine lv_aload_n hx hb dX0_frameOf_34 rfl (lv_at hl 0 rfl) ?_
          exact m_qret (v := some (L (nm (cm + 2) (2 * kn + 8)))) X hr hlk hw hS (Nat.le_of_ble_eq_true rfl) (Nat.le_of_ble_eq_true rfl) ⟨rfl, rfl, Or.inr ⟨kn, dn_, hkn, ek, hF, hdn, edn, rfl⟩⟩ dX0_frameOf_35
        · skip
          refine lv_null hx hb dX0_frameOf_30 ?_
          refine lv_goto (tgt := 35) hx hb dX0_frameOf_31 (by decide) ?_
          exact m_qret (v := none) X hr hlk hw hS (Nat.le_of_ble_eq_true rfl) (Nat.le_of_ble_eq_true rfl) ⟨rfl, rfl, Or.inl ⟨rfl, by first | exact Or.inl ‹k < 0› | exact Or.inr (Or.inl (Int32.not_lt.mp ‹¬ k < 40›)) | exact Or.inr (Or.inr ⟨kn, hkn, ek, fun z => absurd z hF⟩) | exact Or.inr (Or.inr ⟨kn, hkn, ek, fun _ => dneg (hI.2.2.1 _ _ (pOF hm hkn hF)) (by assumption)⟩)⟩⟩ dX0_frameOf_35
      · skip
        refine s_aaldN (a := cm + 2) (b := 7) (n := 40) (k := kn) (t := 4) X hw rfl (c_cell hm 7 _ _ _) ek (by omega) (by decide) (if_neg hF) dX0_frameOf_17 ?_
        refine lv_astore_nN (lv' := [(2, .null), (0, .ref (L (nm (cm + 2) 0))), (1, .int k)]) hx hb dX0_frameOf_18 rfl hl (by decide) rfl (fun ls hl => ?_)
        refine lv_aload_nN hx hb dX0_frameOf_19 rfl (lv_at hl 0 rfl) ?_
        refine lv_ifnullN (tgt := 30) hx hb dX0_frameOf_20 (by decide) ?_
        refine lv_null hx hb dX0_frameOf_30 ?_
        refine lv_goto (tgt := 35) hx hb dX0_frameOf_31 (by decide) ?_
        exact m_qret (v := none) X hr hlk hw hS (Nat.le_of_ble_eq_true rfl) (Nat.le_of_ble_eq_true rfl) ⟨rfl, rfl, Or.inl ⟨rfl, by first | exact Or.inl ‹k < 0› | exact Or.inr (Or.inl (Int32.not_lt.mp ‹¬ k < 40›)) | exact Or.inr (Or.inr ⟨kn, hkn, ek, fun z => absurd z hF⟩) | exact Or.inr (Or.inr ⟨kn, hkn, ek, fun _ => dneg (hI.2.2.1 _ _ (pOF hm hkn hF)) (by assumption)⟩)⟩⟩ dX0_frameOf_35
    · skip
      refine lv_null hx hb dX0_frameOf_10 ?_
      exact m_qret (v := none) X hr hlk hw hS (Nat.le_of_ble_eq_true rfl) (Nat.le_of_ble_eq_true rfl) ⟨rfl, rfl, Or.inl ⟨rfl, by first | exact Or.inl ‹k < 0› | exact Or.inr (Or.inl (Int32.not_lt.mp ‹¬ k < 40›)) | exact Or.inr (Or.inr ⟨kn, hkn, ek, fun z => absurd z hF⟩) | exact Or.inr (Or.inr ⟨kn, hkn, ek, fun _ => dneg (hI.2.2.1 _ _ (pOF hm hkn hF)) (by assumption)⟩)⟩⟩ dX0_frameOf_11
theorem v_X7_isReady : mVm yX7_isReady cX7_isReady 5 (some .boolean) 1 := ⟨cd_X7_isReady, im_X7_isReady, se_X7_isReady, ini_X7, by decide, by decide, by decide +kernel⟩
set_option maxHeartbeats 4000000 in
set_option maxRecDepth 100000 in
theorem k_X7_isReady (Γ : mG) (l : Launch) (L : mI → Nat) (x : CS) (w : Int32) (hI : CInv x) : mMet Γ l yX7_isReady cX7_isReady 5 (some .boolean) { frames := 1, cells := 0, slots := 0, locals := 22 } [.ref (L (nm 0 1)), .int w] L (cM Γ L x) (mQi Γ (fun r L1 M1 => (∃ t : Bool, r = bI t) ∧ L1 = L ∧ M1 = cM Γ L x)) := by
  refine m_start (by decide) (Nat.le_of_ble_eq_true rfl) ?_
  intro p e s m args below meth c A ls X hr hlk hnm hw hS hl
  have hx := X.1.1
  have hb := X.1.2.1
  have hl : lv_has ls 5 [(0, .ref (L (nm 0 1))), (1, .int w)] := hl
  have KL : ∀ (n : Nat) (j z : Int32) (H : Heap) (locs : List Loc) (ls : Array Slot), n ≤ 8 → dn n j → mW Γ.1 vwCl A L (cM Γ L (x)) H → va_S A s.heap H locs → lv_has ls 5 [(3, .int j), (2, .int z), (0, .ref (L (nm 0 1))), (1, .int w)] → W p l e { frames := 1, cells := 0, slots := 0, locals := 22 } s m args below meth c H locs 0 0 (MQ below (mQi Γ (fun r L1 M1 => (∃ t : Bool, r = bI t) ∧ L1 = L ∧ M1 = cM Γ L x) A) args s 0 0 A) (F0 m 18 ls []) := by
    intro n
    induction n with
    | zero =>
      intro j z H locs ls f0 f1 hw hS hl
      obtain rfl : j = -1 := dn_zero f1
      refine lv_iload_n hx hb dX7_isReady_18 rfl (lv_at hl 0 rfl) ?_
      refine lv_if_lt (tgt := 68) hx hb dX7_isReady_19 (by decide) (fun c_1 => ?_) (fun c_1 => ?_)
      · skip
        refine lv_iconst (v := 1) hx hb dX7_isReady_68 (by decide) ?_
        exact m_zret (b := true) X hr hlk hw hS (Nat.le_of_ble_eq_true rfl) (Nat.le_of_ble_eq_true rfl) rfl ⟨⟨_, rfl⟩, rfl, rfl⟩ dX7_isReady_69
      · skip
        exact absurd c_1 (by decide)
    | succ n ih =>
      intro j z H locs ls f0 f1 hw hS hl
      have f1 : j = nI n := dn_succ f1
      refine lv_iload_n hx hb dX7_isReady_18 rfl (lv_at hl 0 rfl) ?_
      refine lv_if_lt (tgt := 68) hx hb dX7_isReady_19 (by decide) (fun c_2 => ?_) (fun c_2 => ?_)
      · skip
        have c_2n : n < 0 := nltT (a := n) (b := 0) f1 rfl (by omega) (by omega) c_2
        have c_2m : ¬ 0 ≤ n := by omega
        refine lv_iconst (v := 1) hx hb dX7_isReady_68 (by decide) ?_
        exact m_zret (b := true) X hr hlk hw hS (Nat.le_of_ble_eq_true rfl) (Nat.le_of_ble_eq_true rfl) rfl ⟨⟨_, rfl⟩, rfl, rfl⟩ dX7_isReady_69
      · skip
        have c_2n : ¬ n < 0 := nltF (a := n) (b := 0) f1 rfl (by omega) (by omega) c_2
        have c_2m : 0 ≤ n := by omega
        refine lv_iload_n hx hb dX7_isReady_22 rfl (lv_at hl 1 rfl) ?_
        refine lv_iload_n hx hb dX7_isReady_23 rfl (lv_at hl 0 rfl) ?_
        refine lv_ishr hx hb dX7_isReady_24 ?_
        refine lv_iconst (v := 1) hx hb dX7_isReady_25 (by decide) ?_
        refine lv_iand hx hb dX7_isReady_26 ?_
        refine lv_iconst (v := 1) hx hb dX7_isReady_27 (by decide) ?_
        refine lv_icmp_ne (tgt := 62) hx hb dX7_isReady_28 (by decide) (fun c_3 => ?_) (fun c_3 => ?_)
        · skip
          refine lv_iinc (v := j + (-1)) (lv' := [(3, .int (j + (-1))), (2, .int z), (0, .ref (L (nm 0 1))), (1, .int w)]) hx hb dX7_isReady_62 hl (k := 0) rfl rfl (by decide) rfl (fun ls hl => ?_)
          refine lv_goto (tgt := 18) hx hb dX7_isReady_65 (by decide) ?_
          exact ih _ _ _ _ ls (by omega) (dn_step f1) hw hS (lv_sub hl [0, 1, 2, 3] rfl)
        · skip
          refine lv_aload_n hx hb dX7_isReady_31 rfl (lv_at hl 2 rfl) ?_
          refine s_get (a := 0) (b := 1) (ci := 5) X hw rfl rfl gX7 0 (by decide) fl_X7_13 rfl rfl dX7_isReady_32 ?_
          refine lv_iload_n hx hb dX7_isReady_35 rfl (lv_at hl 0 rfl) ?_
          by_cases hF : n < cN x
          · skip
            refine s_aaldS (a := 0) (b := 2) (n := 8) (k := n) (t := 3) (q := L (nm (n + 2) 0)) X hw rfl rfl f1 (by omega) (by decide) (if_pos hF) dX7_isReady_36 ?_
            refine lv_astore (lv' := [(4, .ref (L (nm (n + 2) 0))), (3, .int j), (2, .int z), (0, .ref (L (nm 0 1))), (1, .int w)]) hx hb dX7_isReady_37 hl (by decide) rfl (fun ls hl => ?_)
            refine lv_aload hx hb dX7_isReady_39 (lv_at hl 0 rfl) ?_
            refine lv_ifnull hx hb dX7_isReady_41 ?_
            refine lv_aload hx hb dX7_isReady_44 (lv_at hl 0 rfl) ?_
            refine s_get (a := n + 2) (b := 0) (ci := 0) X hw (c_cell hF 0 _ _ _) rfl gX0 11 (by decide) fl_X7_24 rfl rfl dX7_isReady_46 ?_
            refine lv_if_ne (tgt := 54) hx hb dX7_isReady_49 (by decide) (fun c_4 => ?_) (fun c_4 => ?_)
            · skip
              refine lv_iload_n hx hb dX7_isReady_54 rfl (lv_at hl 2 rfl) ?_
              refine lv_aload hx hb dX7_isReady_55 (lv_at hl 0 rfl) ?_
              refine m_calli (m_runV (i := nm (n + 2) 0) (ci := 0) (As := []) (rest := [.int z]) X (k_X0_called Γ l L x n  hI hF) v_X0_called ml_X7_28 hw hS (c_cell hF 0 _ _ _) rfl rfl rfl hl.1 ⟨Nat.le_of_ble_eq_true rfl, Nat.le_of_ble_eq_true rfl⟩ (Nat.le_of_ble_eq_true rfl) ⟨Nat.le_of_ble_eq_true rfl, Nat.le_of_ble_eq_true rfl⟩ dX7_isReady_57) hS (fun r_5 L1 M1 H locs hp_5 hw hS => ?_)
              obtain ⟨e1, e2⟩ := hp_5
              rw [e1, e2] at hw; clear e1 e2
              refine lv_ior hx hb dX7_isReady_60 ?_
              refine lv_istore_n (lv' := [(2, .int (z ||| r_5)), (4, .ref (L (nm (n + 2) 0))), (3, .int j), (0, .ref (L (nm 0 1))), (1, .int w)]) hx hb dX7_isReady_61 rfl hl (by decide) rfl (fun ls hl => ?_)
              refine lv_iinc (v := j + (-1)) (lv' := [(3, .int (j + (-1))), (2, .int (z ||| r_5)), (4, .ref (L (nm (n + 2) 0))), (0, .ref (L (nm 0 1))), (1, .int w)]) hx hb dX7_isReady_62 hl (k := 2) rfl rfl (by decide) rfl (fun ls hl => ?_)
              refine lv_goto (tgt := 18) hx hb dX7_isReady_65 (by decide) ?_
              exact ih _ _ _ _ ls (by omega) (dn_step f1) hw hS (lv_sub hl [0, 1, 3, 4] rfl)
            · skip
              refine lv_iconst (v := 0) hx hb dX7_isReady_52 (by decide) ?_
              exact m_zret (b := false) X hr hlk hw hS (Nat.le_of_ble_eq_true rfl) (Nat.le_of_ble_eq_true rfl) rfl ⟨⟨_, rfl⟩, rfl, rfl⟩ dX7_isReady_53
          · skip
            refine s_aaldN (a := 0) (b := 2) (n := 8) (k := n) (t := 3) X hw rfl rfl f1 (by omega) (by decide) (if_neg hF) dX7_isReady_36 ?_
            refine lv_astoreN (lv' := [(4, .null), (3, .int j), (2, .int z), (0, .ref (L (nm 0 1))), (1, .int w)]) hx hb dX7_isReady_37 hl (by decide) rfl (fun ls hl => ?_)
            refine lv_aloadN hx hb dX7_isReady_39 (lv_at hl 0 rfl) ?_
            refine lv_ifnullN (tgt := 52) hx hb dX7_isReady_41 (by decide) ?_
            refine lv_iconst (v := 0) hx hb dX7_isReady_52 (by decide) ?_
            exact m_zret (b := false) X hr hlk hw hS (Nat.le_of_ble_eq_true rfl) (Nat.le_of_ble_eq_true rfl) rfl ⟨⟨_, rfl⟩, rfl, rfl⟩ dX7_isReady_53
  refine lv_iload_n hx hb dX7_isReady_0 rfl (lv_at hl 1 rfl) ?_
  refine lv_if_lt (tgt := 10) hx hb dX7_isReady_1 (by decide) (fun c_6 => ?_) (fun c_6 => ?_)
  · skip
    refine lv_iconst (v := 0) hx hb dX7_isReady_10 (by decide) ?_
    exact m_zret (b := false) X hr hlk hw hS (Nat.le_of_ble_eq_true rfl) (Nat.le_of_ble_eq_true rfl) rfl ⟨⟨_, rfl⟩, rfl, rfl⟩ dX7_isReady_11
  · skip
    refine lv_iload_n hx hb dX7_isReady_4 rfl (lv_at hl 1 rfl) ?_
    refine lv_bipush (v := 8) hx hb dX7_isReady_5 (by decide) ?_
    refine lv_icmp_lt (tgt := 12) hx hb dX7_isReady_7 (by decide) (fun c_7 => ?_) (fun c_7 => ?_)
    · skip
      obtain ⟨kn, hkn, ek⟩ := nat_lt8 (by assumption) (by assumption)
      refine lv_iconst (v := 1) hx hb dX7_isReady_12 (by decide) ?_
      refine lv_iload_n hx hb dX7_isReady_13 rfl (lv_at hl 1 rfl) ?_
      refine lv_ishl hx hb dX7_isReady_14 ?_
      refine lv_istore_n (lv' := [(2, .int (1 <<< (w &&& 31))), (0, .ref (L (nm 0 1))), (1, .int w)]) hx hb dX7_isReady_15 rfl hl (by decide) rfl (fun ls hl => ?_)
      refine lv_iload_n hx hb dX7_isReady_16 rfl (lv_at hl 2 rfl) ?_
      refine lv_istore_n (lv' := [(3, .int w), (2, .int (1 <<< (w &&& 31))), (0, .ref (L (nm 0 1))), (1, .int w)]) hx hb dX7_isReady_17 rfl hl (by decide) rfl (fun ls hl => ?_)
      exact KL (kn + 1) _ _ _ _ ls (by omega) (Or.inr ⟨kn, rfl, ek⟩) hw hS (lv_sub hl [0, 1, 2, 3] rfl)
    · skip
      refine lv_iconst (v := 0) hx hb dX7_isReady_10 (by decide) ?_
      exact m_zret (b := false) X hr hlk hw hS (Nat.le_of_ble_eq_true rfl) (Nat.le_of_ble_eq_true rfl) rfl ⟨⟨_, rfl⟩, rfl, rfl⟩ dX7_isReady_11
