/-! make -/
def fmJ (f : Nat → Int64) (o : Nat) (v : Int64) : Nat → Nat → Int64
  | 0 => f
  | n + 1 => vp_updL (fmJ f o v n) (o + n) v
def sJs (x : RS) (k : Nat) (f : Nat → Int64) : RS := (x.1, x.2.1, va_up x.2.2 k f)
theorem sJs_J (x : RS) (k n : Nat) (f : Nat → Int64) (v : Int64) : sJ (sJs x k f) k n v = sJs x k (vp_updL f n v) := by
  unfold sJ sJs
  have e : va_up x.2.2 k f k = f := by simp [va_up]
  show (x.1, x.2.1, va_up (va_up x.2.2 k f) k (vp_updL (va_up x.2.2 k f k) n v)) = _
  rw [e, va_upup]
theorem sJs_self (x : RS) (k : Nat) : sJs x k (x.2.2 k) = x := by
  unfold sJs
  have e : va_up x.2.2 k (x.2.2 k) = x.2.2 := by
    funext j
    by_cases h : j = k
    · subst h; simp [va_up]
    · simp [va_up, h]
  rw [e]
def r_mk0 (x : RS) (mk z : Nat) (a : Int32) : RS := sA (sA (sA x 24 mk a) 25 mk (nI z)) 26 mk 0
def r_make (x : RS) (mk z : Nat) (a : Int32) : RS := sS (sJs (r_mk0 x mk z a) 27 (fmJ (x.2.2 27) (30 * mk) (if a = 50 then 0 else -1) z)) 23 (nI (mk + 1))
theorem v_X10_make : mVm yX10_make cX10_make 4 (some .int) 2 := ⟨cd_X10_make, im_X10_make, se_X10_make, ini_X10, by decide, by decide, by decide +kernel⟩
set_option maxHeartbeats 4000000 in
set_option maxRecDepth 100000 in
theorem k_X10_make (Γ : mG) (l : Launch) (L : mI → Nat) (x : RS) (a : Int32) (b : Int32) (mk z : Nat) (hmk : x.1 23 = nI mk) (hmk2 : mk < 20) (hz : b = nI z) (hz3 : z ≤ 30) : mMet Γ l yX10_make cX10_make 4 (some .int) { frames := 0, cells := 0, slots := 0, locals := 0 } [.ref (L (.inl 0)), .int a, .int b] L (rM Γ L x) (mQi Γ (fun r L1 M1 => r = ((nI mk, r_make x mk z a)).1 ∧ L1 = L ∧ M1 = rM Γ L ((nI mk, r_make x mk z a)).2)) := by
  refine m_start (by decide) (Nat.le_of_ble_eq_true rfl) ?_
  intro p e s m args below meth c A ls X hr hlk hnm hw hS hl
  have hx := X.1.1
  have hb := X.1.2.1
  have hl : lv_has ls 4 [(0, .ref (L (.inl 0))), (1, .int a), (2, .int b)] := hl
  have KL : ∀ (u t : Nat) (j : Int32) (H : Heap) (locs : List Loc) (ls : Array Slot), t + u = z → j = nI t → mW Γ.1 vwCl A L (rM Γ L (sJs (r_mk0 x mk z a) 27 (fmJ (x.2.2 27) (30 * mk) (if a = 50 then 0 else -1) t))) H → va_S A s.heap H locs → lv_has ls 4 [(3, .int j), (0, .ref (L (.inl 0))), (1, .int a), (2, .int b)] → W p l e { frames := 0, cells := 0, slots := 0, locals := 0 } s m args below meth c H locs 0 0 (MQ below (mQi Γ (fun r L1 M1 => r = ((nI mk, r_make x mk z a)).1 ∧ L1 = L ∧ M1 = rM Γ L ((nI mk, r_make x mk z a)).2) A) args s 0 0 A) (F0 m 32 ls []) := by
    intro u
    induction u with
    | zero =>
      intro t j H locs ls ht hj hw hS hl
      refine lv_iload_n hx hb dX10_make_32 rfl (lv_at hl 0 rfl) ?_
      refine lv_iload_n hx hb dX10_make_33 rfl (lv_at hl 3 rfl) ?_
      refine lv_icmp_ge (tgt := 70) hx hb dX10_make_34 (by decide) (fun c_1 => ?_) (fun c_1 => ?_)
      · skip
        have c_1n : t ≥ z := ngeT (a := t) (b := z) hj hz (by omega) (by omega) c_1
        have c_1m : ¬ t < z := by omega
        refine lv_aload_n hx hb dX10_make_70 rfl (lv_at hl 1 rfl) ?_
        refine lv_dup hx hb dX10_make_71 rfl ?_
        refine r_get23 X hw dX10_make_72 ?_
        refine lv_iconst (v := 1) hx hb dX10_make_75 (by decide) ?_
        refine lv_iadd hx hb dX10_make_76 ?_
        refine lv_topi (fun v_2 ev_2 => ?_)
        obtain rfl : v_2 = nI (mk + 1) := ev_2.trans (nadd (a := mk) (b := 1) hmk rfl)
        clear ev_2
        refine r_put23 X hw hS dX10_make_77 (fun H locs hw hS => ?_)
        refine lv_aload_n hx hb dX10_make_80 rfl (lv_at hl 1 rfl) ?_
        refine r_get23 X hw dX10_make_81 ?_
        refine lv_iconst (v := 1) hx hb dX10_make_84 (by decide) ?_
        refine lv_isub hx hb dX10_make_85 ?_
        refine lv_topi (fun v_3 ev_3 => ?_)
        obtain rfl : v_3 = nI ((mk + 1) - 1) := ev_3.trans (nsub (a := mk + 1) (b := 1) (by omega) rfl rfl)
        clear ev_3
        exact m_iret X hr hlk hw hS (Nat.zero_le _) (Nat.zero_le _) ⟨by clear hb hx hl hS hw hnm hlk hr X; first | exact absurd ht (by omega) | (have e9 : t = z := (by omega); subst e9; rfl) | rfl | (simp_all [bI, r_make]; done) | (simp_all [bI, r_make]; rfl), rfl, by clear hb hx hl hS hw hnm hlk hr X; first | exact absurd ht (by omega) | (have e9 : t = z := (by omega); subst e9; rfl) | rfl | (simp_all [bI, r_make]; done) | (simp_all [bI, r_make]; rfl)⟩ dX10_make_86
      · skip
        have c_1n : ¬ t ≥ z := ngeF (a := t) (b := z) hj hz (by omega) (by omega) c_1
        have c_1m : t < z := by omega
        refine lv_aload_n hx hb dX10_make_37 rfl (lv_at hl 1 rfl) ?_
        refine r_get27 X hw dX10_make_38 ?_
        refine lv_bipush (v := 30) hx hb dX10_make_41 (by decide) ?_
        refine lv_aload_n hx hb dX10_make_43 rfl (lv_at hl 1 rfl) ?_
        refine r_get23 X hw dX10_make_44 ?_
        refine lv_imul hx hb dX10_make_47 ?_
        refine lv_iload_n hx hb dX10_make_48 rfl (lv_at hl 0 rfl) ?_
        refine lv_iadd hx hb dX10_make_49 ?_
        refine lv_iload_n hx hb dX10_make_50 rfl (lv_at hl 2 rfl) ?_
        refine lv_bipush (v := 50) hx hb dX10_make_51 (by decide) ?_
        refine lv_icmp_ne (tgt := 60) hx hb dX10_make_53 (by decide) (fun c_4 => ?_) (fun c_4 => ?_)
        · skip
          refine lv_ldc2 (v := (-1)) hx hb X.1.2.2.2.1 (X.1.2.2.2.2 _ kl_X10_141) dX10_make_60 ?_
          refine r_ast27N (n := (30 * mk) + t) X hw hS (nadd (a := 30 * mk) (b := t) (nmul (a := 30) (b := mk) rfl hmk) hj) (by omega) dX10_make_63 (fun H locs hw hS => ?_)
          refine lv_iinc (v := j + 1) (lv' := [(3, .int (j + 1)), (0, .ref (L (.inl 0))), (1, .int a), (2, .int b)]) hx hb dX10_make_64 hl (k := 0) rfl rfl (by decide) rfl (fun ls hl => ?_)
          refine lv_goto (tgt := 32) hx hb dX10_make_67 (by decide) ?_
          exact absurd ht (by omega)
        · skip
          refine lv_lconst (v := 0) hx hb dX10_make_56 (by decide) ?_
          refine lv_goto (tgt := 63) hx hb dX10_make_57 (by decide) ?_
          refine r_ast27N (n := (30 * mk) + t) X hw hS (nadd (a := 30 * mk) (b := t) (nmul (a := 30) (b := mk) rfl hmk) hj) (by omega) dX10_make_63 (fun H locs hw hS => ?_)
          refine lv_iinc (v := j + 1) (lv' := [(3, .int (j + 1)), (0, .ref (L (.inl 0))), (1, .int a), (2, .int b)]) hx hb dX10_make_64 hl (k := 0) rfl rfl (by decide) rfl (fun ls hl => ?_)
          refine lv_goto (tgt := 32) hx hb dX10_make_67 (by decide) ?_
          exact absurd ht (by omega)
    | succ u ih =>
      intro t j H locs ls ht hj hw hS hl
      refine lv_iload_n hx hb dX10_make_32 rfl (lv_at hl 0 rfl) ?_
      refine lv_iload_n hx hb dX10_make_33 rfl (lv_at hl 3 rfl) ?_
      refine lv_icmp_ge (tgt := 70) hx hb dX10_make_34 (by decide) (fun c_5 => ?_) (fun c_5 => ?_)
      · skip
        have c_5n : t ≥ z := ngeT (a := t) (b := z) hj hz (by omega) (by omega) c_5
        have c_5m : ¬ t < z := by omega
        refine lv_aload_n hx hb dX10_make_70 rfl (lv_at hl 1 rfl) ?_
        refine lv_dup hx hb dX10_make_71 rfl ?_
        refine r_get23 X hw dX10_make_72 ?_
        refine lv_iconst (v := 1) hx hb dX10_make_75 (by decide) ?_
        refine lv_iadd hx hb dX10_make_76 ?_
        refine lv_topi (fun v_6 ev_6 => ?_)
        obtain rfl : v_6 = nI (mk + 1) := ev_6.trans (nadd (a := mk) (b := 1) hmk rfl)
        clear ev_6
        refine r_put23 X hw hS dX10_make_77 (fun H locs hw hS => ?_)
        refine lv_aload_n hx hb dX10_make_80 rfl (lv_at hl 1 rfl) ?_
        refine r_get23 X hw dX10_make_81 ?_
        refine lv_iconst (v := 1) hx hb dX10_make_84 (by decide) ?_
        refine lv_isub hx hb dX10_make_85 ?_
        refine lv_topi (fun v_7 ev_7 => ?_)
        obtain rfl : v_7 = nI ((mk + 1) - 1) := ev_7.trans (nsub (a := mk + 1) (b := 1) (by omega) rfl rfl)
        clear ev_7
        exact m_iret X hr hlk hw hS (Nat.zero_le _) (Nat.zero_le _) ⟨by clear hb hx hl hS hw hnm hlk hr X; first | exact absurd ht (by omega) | (have e9 : t = z := (by omega); subst e9; rfl) | rfl | (simp_all [bI, r_make]; done) | (simp_all [bI, r_make]; rfl), rfl, by clear hb hx hl hS hw hnm hlk hr X; first | exact absurd ht (by omega) | (have e9 : t = z := (by omega); subst e9; rfl) | rfl | (simp_all [bI, r_make]; done) | (simp_all [bI, r_make]; rfl)⟩ dX10_make_86
      · skip
        have c_5n : ¬ t ≥ z := ngeF (a := t) (b := z) hj hz (by omega) (by omega) c_5
        have c_5m : t < z := by omega
        refine lv_aload_n hx hb dX10_make_37 rfl (lv_at hl 1 rfl) ?_
        refine r_get27 X hw dX10_make_38 ?_
        refine lv_bipush (v := 30) hx hb dX10_make_41 (by decide) ?_
        refine lv_aload_n hx hb dX10_make_43 rfl (lv_at hl 1 rfl) ?_
        refine r_get23 X hw dX10_make_44 ?_
        refine lv_imul hx hb dX10_make_47 ?_
        refine lv_iload_n hx hb dX10_make_48 rfl (lv_at hl 0 rfl) ?_
        refine lv_iadd hx hb dX10_make_49 ?_
        refine lv_iload_n hx hb dX10_make_50 rfl (lv_at hl 2 rfl) ?_
        refine lv_bipush (v := 50) hx hb dX10_make_51 (by decide) ?_
        refine lv_icmp_ne (tgt := 60) hx hb dX10_make_53 (by decide) (fun c_8 => ?_) (fun c_8 => ?_)
        · skip
          refine lv_ldc2 (v := (-1)) hx hb X.1.2.2.2.1 (X.1.2.2.2.2 _ kl_X10_141) dX10_make_60 ?_
          refine r_ast27N (n := (30 * mk) + t) X hw hS (nadd (a := 30 * mk) (b := t) (nmul (a := 30) (b := mk) rfl hmk) hj) (by omega) dX10_make_63 (fun H locs hw hS => ?_)
          refine lv_iinc (v := j + 1) (lv' := [(3, .int (j + 1)), (0, .ref (L (.inl 0))), (1, .int a), (2, .int b)]) hx hb dX10_make_64 hl (k := 0) rfl rfl (by decide) rfl (fun ls hl => ?_)
          refine lv_goto (tgt := 32) hx hb dX10_make_67 (by decide) ?_
          exact ih (t + 1) _ H locs ls (by omega) (nadd (a := t) (b := 1) hj rfl) (by rw [sJs_J] at hw; first | (rw [if_pos (by assumption)] at hw ⊢; exact hw) | (rw [if_neg (by assumption)] at hw ⊢; exact hw)) hS hl
        · skip
          refine lv_lconst (v := 0) hx hb dX10_make_56 (by decide) ?_
          refine lv_goto (tgt := 63) hx hb dX10_make_57 (by decide) ?_
          refine r_ast27N (n := (30 * mk) + t) X hw hS (nadd (a := 30 * mk) (b := t) (nmul (a := 30) (b := mk) rfl hmk) hj) (by omega) dX10_make_63 (fun H locs hw hS => ?_)
          refine lv_iinc (v := j + 1) (lv' := [(3, .int (j + 1)), (0, .ref (L (.inl 0))), (1, .int a), (2, .int b)]) hx hb dX10_make_64 hl (k := 0) rfl rfl (by decide) rfl (fun ls hl => ?_)
          refine lv_goto (tgt := 32) hx hb dX10_make_67 (by decide) ?_
          exact ih (t + 1) _ H locs ls (by omega) (nadd (a := t) (b := 1) hj rfl) (by rw [sJs_J] at hw; first | (rw [if_pos (by assumption)] at hw ⊢; exact hw) | (rw [if_neg (by assumption)] at hw ⊢; exact hw)) hS hl
  refine lv_aload_n hx hb dX10_make_0 rfl (lv_at hl 0 rfl) ?_
  refine r_get24 X hw dX10_make_1 ?_
  refine lv_aload_n hx hb dX10_make_4 rfl (lv_at hl 0 rfl) ?_
  refine r_get23 X hw dX10_make_5 ?_
  refine lv_iload_n hx hb dX10_make_8 rfl (lv_at hl 1 rfl) ?_
  refine r_ast24N (n := mk) X hw hS hmk (by omega) dX10_make_9 (fun H locs hw hS => ?_)
  refine lv_aload_n hx hb dX10_make_10 rfl (lv_at hl 0 rfl) ?_
  refine r_get25 X hw dX10_make_11 ?_
  refine lv_aload_n hx hb dX10_make_14 rfl (lv_at hl 0 rfl) ?_
  refine r_get23 X hw dX10_make_15 ?_
  refine lv_iload_n hx hb dX10_make_18 rfl (lv_at hl 2 rfl) ?_
  refine lv_topi (fun v_9 ev_9 => ?_)
  obtain rfl : v_9 = nI (z) := ev_9.trans hz
  clear ev_9
  refine r_ast25N (n := mk) X hw hS hmk (by omega) dX10_make_19 (fun H locs hw hS => ?_)
  refine lv_aload_n hx hb dX10_make_20 rfl (lv_at hl 0 rfl) ?_
  refine r_get26 X hw dX10_make_21 ?_
  refine lv_aload_n hx hb dX10_make_24 rfl (lv_at hl 0 rfl) ?_
  refine r_get23 X hw dX10_make_25 ?_
  refine lv_iconst (v := 0) hx hb dX10_make_28 (by decide) ?_
  refine r_ast26N (n := mk) X hw hS hmk (by omega) dX10_make_29 (fun H locs hw hS => ?_)
  refine lv_iconst (v := 0) hx hb dX10_make_30 (by decide) ?_
  refine lv_istore_n (lv' := [(3, .int 0), (0, .ref (L (.inl 0))), (1, .int a), (2, .int b)]) hx hb dX10_make_31 rfl hl (by decide) rfl (fun ls hl => ?_)
  exact KL z 0 _ _ _ ls (by omega) rfl (by show mW Γ.1 vwCl A L (rM Γ L (sJs (r_mk0 x mk z a) 27 ((r_mk0 x mk z a).2.2 27))) _; rw [sJs_self]; subst hz; exact hw) hS hl
