/-! JOINED: what comes to an instruction -/
theorem nb_or {a b : Int32} {c d : Bool} (ha : a = bI c) (hb : b = bI d) : narrow .boolean (.int (a ||| b)) = .int (a ||| b) ∧ fits .boolean (.int (a ||| b)) = true := by
  subst ha; subst hb
  cases c <;> cases d <;> decide
def r_jn (x : RS) (i : Nat) (q : PL) : Nat → RS
  | 0 => x
  | n + 1 => sA (sS (r_jn x i q n) 16 ((r_jn x i q n).1 16 ||| bI (!decide (r_joined ((r_jn x i q n).2.1 12 (16 * i + n)) (q.1 n) = (r_jn x i q n).2.1 12 (16 * i + n))))) 12 (16 * i + n) (r_joined ((r_jn x i q n).2.1 12 (16 * i + n)) (q.1 n))
theorem r_jn_t {x : RS} {i : Nat} {q : PL} {n : Nat} (c : ¬ r_joined ((r_jn x i q n).2.1 12 (16 * i + n)) (q.1 n) = (r_jn x i q n).2.1 12 (16 * i + n)) : sA (sS (r_jn x i q n) 16 ((r_jn x i q n).1 16 ||| 1)) 12 (16 * i + n) (r_joined ((r_jn x i q n).2.1 12 (16 * i + n)) (q.1 n)) = r_jn x i q (n + 1) := by
  show _ = sA (sS (r_jn x i q n) 16 ((r_jn x i q n).1 16 ||| bI (!decide _))) _ _ _
  rw [decide_eq_false c]
  rfl
theorem r_jn_f {x : RS} {i : Nat} {q : PL} {n : Nat} (c : r_joined ((r_jn x i q n).2.1 12 (16 * i + n)) (q.1 n) = (r_jn x i q n).2.1 12 (16 * i + n)) : sA (sS (r_jn x i q n) 16 ((r_jn x i q n).1 16 ||| 0)) 12 (16 * i + n) (r_joined ((r_jn x i q n).2.1 12 (16 * i + n)) (q.1 n)) = r_jn x i q (n + 1) := by
  show _ = sA (sS (r_jn x i q n) 16 ((r_jn x i q n).1 16 ||| bI (!decide _))) _ _ _
  rw [decide_eq_true c]
  rfl
theorem bI_or (a b : Bool) : bI a ||| bI b = bI (a || b) := by cases a <;> cases b <;> decide
theorem r_jn_b {x : RS} {i : Nat} {q : PL} {cb : Bool} (h : x.1 16 = bI cb) : ∀ n, ∃ c0 : Bool, (r_jn x i q n).1 16 = bI c0
  | 0 => ⟨cb, h⟩
  | n + 1 => by
    obtain ⟨c0, hc⟩ := r_jn_b (i := i) (q := q) h n
    refine ⟨c0 || !decide (r_joined ((r_jn x i q n).2.1 12 (16 * i + n)) (q.1 n) = (r_jn x i q n).2.1 12 (16 * i + n)), ?_⟩
    show upd (r_jn x i q n).1 16 ((r_jn x i q n).1 16 ||| bI _) 16 = _
    rw [hc, bI_or]
    simp [upd]
theorem r_jn_k {x : RS} {i : Nat} {q : PL} {k : Nat} (hk : k ≠ 12) : ∀ n, (r_jn x i q n).2.1 k = x.2.1 k
  | 0 => rfl
  | n + 1 => by
    show va_up (r_jn x i q n).2.1 12 _ k = _
    rw [← r_jn_k (i := i) (q := q) hk n]
    simp [va_up, hk]
def r_comes (x : RS) (om : Nat) (b : Int32) (q : PL) : Bool × RS := if r_isM om b = true then (if x.2.1 11 b.toNatClampNeg < 0 then (true, sS (r_sees x b.toNatClampNeg q) 16 1) else if x.2.1 11 b.toNatClampNeg = nI q.2 then (true, r_jn x b.toNatClampNeg q (8 + q.2)) else (false, x)) else (false, x)
theorem v_X10_comesTo : mVm yX10_comesTo cX10_comesTo 5 (some .boolean) 2 := ⟨cd_X10_comesTo, im_X10_comesTo, se_X10_comesTo, ini_X10, by decide, by decide, by decide +kernel⟩
set_option maxHeartbeats 4000000 in
set_option maxRecDepth 100000 in
theorem k_X10_comesTo (Γ : mG) (l : Launch) (L : mI → Nat) (x : RS) (h : Nat → Int32) (d : Nat) (a b : Int32) (k om : Nat) (cb : Bool) (hd : d ≤ 8) (ha : a = nI k) (hk : k < 8) (hom : x.2.1 2 k = nI om) (ho40 : om ≤ 40) (hcb : x.1 16 = bI cb) : mMet Γ l yX10_comesTo cX10_comesTo 5 (some .boolean) { frames := 4, cells := 0, slots := 0, locals := 86 } [.ref (L (.inl 0)), .int a, .int b] L (rM Γ L (sH x (h, d))) (mQi Γ (fun r L1 M1 => r = bI (r_comes x om b (h, d)).1 ∧ L1 = L ∧ M1 = rM Γ L (sH (r_comes x om b (h, d)).2 (h, d)))) := by
  refine m_start (by decide) (Nat.le_of_ble_eq_true rfl) ?_
  intro p e s m args below meth c A ls X hr hlk hnm hw hS hl
  have hx := X.1.1
  have hb := X.1.2.1
  have hl : lv_has ls 5 [(0, .ref (L (.inl 0))), (1, .int a), (2, .int b)] := hl
  have K58 : ∀ (u t i : Nat) (j : Int32) (H : Heap) (locs : List Loc) (ls : Array Slot), t + u = 8 + d → j = nI t → i < om → b = nI i → r_isM om b = true → ¬ x.2.1 11 i < 0 → x.2.1 11 i = nI d → mW Γ.1 vwCl A L (rM Γ L (sH (r_jn x i (h, d) t) (h, d))) H → va_S A s.heap H locs → lv_has ls 5 [(3, .int j), (0, .ref (L (.inl 0))), (1, .int a), (2, .int (nI i))] → W p l e { frames := 4, cells := 0, slots := 0, locals := 86 } s m args below meth c H locs 0 0 (MQ below (mQi Γ (fun r L1 M1 => r = bI (r_comes x om b (h, d)).1 ∧ L1 = L ∧ M1 = rM Γ L (sH (r_comes x om b (h, d)).2 (h, d))) A) args s 0 0 A) (F0 m 58 ls []) := by
    intro u
    induction u with
    | zero =>
      intro t i j H locs ls ht hj hi eb h1 h2 h3 hw hS hl
      obtain ⟨c0, hc0⟩ := r_jn_b (i := i) (q := (h, d)) hcb t
      have hci : (nI i).toNatClampNeg = i := nI_clamp (by omega)
      refine lv_iload_n hx hb dX10_comesTo_58 rfl (lv_at hl 0 rfl) ?_
      refine lv_bipush (v := 8) hx hb dX10_comesTo_59 (by decide) ?_
      refine lv_aload_n hx hb dX10_comesTo_61 rfl (lv_at hl 1 rfl) ?_
      refine h_get15 X hw dX10_comesTo_62 ?_
      refine lv_iadd hx hb dX10_comesTo_65 ?_
      refine lv_icmp_ge (tgt := 140) hx hb dX10_comesTo_66 (by decide) (fun c_1 => ?_) (fun c_1 => ?_)
      · skip
        have c_1n : t ≥ (8 + d) := ngeT (a := t) (b := 8 + d) hj (nadd (a := 8) (b := d) rfl rfl) (by omega) (by omega) c_1
        have c_1m : ¬ t < (8 + d) := by omega
        refine lv_iconst (v := 1) hx hb dX10_comesTo_140 (by decide) ?_
        exact m_zret (b := (r_comes x om b (h, d)).1) X hr hlk hw hS (Nat.zero_le _) (Nat.zero_le _) (by first | exact absurd ht (by omega) | (have e9 : t = 8 + d := (by omega); subst e9; subst eb; simp only [r_comes, h1, hci, if_true]; rw [if_neg h2, if_pos h3]; done) | (have e9 : t = 8 + d := (by omega); subst e9; subst eb; simp only [r_comes, h1, hci, if_true]; rw [if_neg h2, if_pos h3]; rfl)) ⟨rfl, rfl, by first | exact absurd ht (by omega) | (have e9 : t = 8 + d := (by omega); subst e9; subst eb; simp only [r_comes, h1, hci, if_true]; rw [if_neg h2, if_pos h3]; done) | (have e9 : t = 8 + d := (by omega); subst e9; subst eb; simp only [r_comes, h1, hci, if_true]; rw [if_neg h2, if_pos h3]; rfl)⟩ dX10_comesTo_141
      · skip
        have c_1n : ¬ t ≥ (8 + d) := ngeF (a := t) (b := 8 + d) hj (nadd (a := 8) (b := d) rfl rfl) (by omega) (by omega) c_1
        have c_1m : t < (8 + d) := by omega
        refine lv_aload_n hx hb dX10_comesTo_69 rfl (lv_at hl 1 rfl) ?_
        refine r_get12 X hw dX10_comesTo_70 ?_
        refine lv_bipush (v := 16) hx hb dX10_comesTo_73 (by decide) ?_
        refine lv_iload_n hx hb dX10_comesTo_75 rfl (lv_at hl 3 rfl) ?_
        refine lv_imul hx hb dX10_comesTo_76 ?_
        refine lv_iload_n hx hb dX10_comesTo_77 rfl (lv_at hl 0 rfl) ?_
        refine lv_iadd hx hb dX10_comesTo_78 ?_
        refine h_ald12 (n := (16 * i) + t) X hw (nadd (a := 16 * i) (b := t) (nmul (a := 16) (b := i) rfl rfl) hj) (by omega) dX10_comesTo_79 ?_
        refine lv_aload_n hx hb dX10_comesTo_80 rfl (lv_at hl 1 rfl) ?_
        refine r_get14 X hw dX10_comesTo_81 ?_
        refine lv_iload_n hx hb dX10_comesTo_84 rfl (lv_at hl 0 rfl) ?_
        refine h_ald14 (n := t) X hw hj (by omega) dX10_comesTo_85 ?_
        refine m_calli (m_runS (As := [.int ((r_jn x i (h, d) t).2.1 12 ((16 * i) + t)), .int (h t)]) (rest := []) X (k_X10_joined Γ l L (rM Γ L (sH (r_jn x i (h, d) t) (h, d))) ((r_jn x i (h, d) t).2.1 12 ((16 * i) + t)) (h t) ) s_X10_joined ml_X10_122 hw hS rfl hl.1 ⟨Nat.le_of_ble_eq_true rfl, Nat.le_of_ble_eq_true rfl⟩ (Nat.le_of_ble_eq_true rfl) ⟨Nat.le_of_ble_eq_true rfl, Nat.le_of_ble_eq_true rfl⟩ dX10_comesTo_86) hS (fun r_3 L1 M1 H locs hp_2 hw hS => ?_)
        obtain ⟨rfl, e1, e2⟩ := hp_2
        rw [e1, e2] at hw; clear e1 e2
        refine lv_istore (lv' := [(4, .int (r_joined ((r_jn x i (h, d) t).2.1 12 ((16 * i) + t)) (h t))), (3, .int j), (0, .ref (L (.inl 0))), (1, .int a), (2, .int (nI i))]) hx hb dX10_comesTo_89 hl (by decide) rfl (fun ls hl => ?_)
        refine lv_aload_n hx hb dX10_comesTo_91 rfl (lv_at hl 2 rfl) ?_
        refine lv_dup hx hb dX10_comesTo_92 rfl ?_
        refine h_get16 X hw dX10_comesTo_93 ?_
        refine lv_iload hx hb dX10_comesTo_96 (lv_at hl 0 rfl) ?_
        refine lv_aload_n hx hb dX10_comesTo_98 rfl (lv_at hl 2 rfl) ?_
        refine r_get12 X hw dX10_comesTo_99 ?_
        refine lv_bipush (v := 16) hx hb dX10_comesTo_102 (by decide) ?_
        refine lv_iload_n hx hb dX10_comesTo_104 rfl (lv_at hl 4 rfl) ?_
        refine lv_imul hx hb dX10_comesTo_105 ?_
        refine lv_iload_n hx hb dX10_comesTo_106 rfl (lv_at hl 1 rfl) ?_
        refine lv_iadd hx hb dX10_comesTo_107 ?_
        refine h_ald12 (n := (16 * i) + t) X hw (nadd (a := 16 * i) (b := t) (nmul (a := 16) (b := i) rfl rfl) hj) (by omega) dX10_comesTo_108 ?_
        refine lv_icmp_eq (tgt := 116) hx hb dX10_comesTo_109 (by decide) (fun c_4 => ?_) (fun c_4 => ?_)
        · skip
          refine lv_iconst (v := 0) hx hb dX10_comesTo_116 (by decide) ?_
          refine lv_ior hx hb dX10_comesTo_117 ?_
          refine h_put16 X hw hS (nb_or (d := false) hc0 rfl).1 (nb_or (d := false) hc0 rfl).2 dX10_comesTo_118 (fun H locs hw hS => ?_)
          refine lv_aload_n hx hb dX10_comesTo_121 rfl (lv_at hl 2 rfl) ?_
          refine r_get12 X hw dX10_comesTo_122 ?_
          refine lv_bipush (v := 16) hx hb dX10_comesTo_125 (by decide) ?_
          refine lv_iload_n hx hb dX10_comesTo_127 rfl (lv_at hl 4 rfl) ?_
          refine lv_imul hx hb dX10_comesTo_128 ?_
          refine lv_iload_n hx hb dX10_comesTo_129 rfl (lv_at hl 1 rfl) ?_
          refine lv_iadd hx hb dX10_comesTo_130 ?_
          refine lv_iload hx hb dX10_comesTo_131 (lv_at hl 0 rfl) ?_
          refine h_ast12 (n := (16 * i) + t) X hw hS (nadd (a := 16 * i) (b := t) (nmul (a := 16) (b := i) rfl rfl) hj) (by omega) dX10_comesTo_133 (fun H locs hw hS => ?_)
          refine lv_iinc (v := j + 1) (lv' := [(3, .int (j + 1)), (4, .int (r_joined ((r_jn x i (h, d) t).2.1 12 ((16 * i) + t)) (h t))), (0, .ref (L (.inl 0))), (1, .int a), (2, .int (nI i))]) hx hb dX10_comesTo_134 hl (k := 1) rfl rfl (by decide) rfl (fun ls hl => ?_)
          refine lv_goto (tgt := 58) hx hb dX10_comesTo_137 (by decide) ?_
          exact absurd ht (by omega)
        · skip
          refine lv_iconst (v := 1) hx hb dX10_comesTo_112 (by decide) ?_
          refine lv_goto (tgt := 117) hx hb dX10_comesTo_113 (by decide) ?_
          refine lv_ior hx hb dX10_comesTo_117 ?_
          refine h_put16 X hw hS (nb_or (d := true) hc0 rfl).1 (nb_or (d := true) hc0 rfl).2 dX10_comesTo_118 (fun H locs hw hS => ?_)
          refine lv_aload_n hx hb dX10_comesTo_121 rfl (lv_at hl 2 rfl) ?_
          refine r_get12 X hw dX10_comesTo_122 ?_
          refine lv_bipush (v := 16) hx hb dX10_comesTo_125 (by decide) ?_
          refine lv_iload_n hx hb dX10_comesTo_127 rfl (lv_at hl 4 rfl) ?_
          refine lv_imul hx hb dX10_comesTo_128 ?_
          refine lv_iload_n hx hb dX10_comesTo_129 rfl (lv_at hl 1 rfl) ?_
          refine lv_iadd hx hb dX10_comesTo_130 ?_
          refine lv_iload hx hb dX10_comesTo_131 (lv_at hl 0 rfl) ?_
          refine h_ast12 (n := (16 * i) + t) X hw hS (nadd (a := 16 * i) (b := t) (nmul (a := 16) (b := i) rfl rfl) hj) (by omega) dX10_comesTo_133 (fun H locs hw hS => ?_)
          refine lv_iinc (v := j + 1) (lv' := [(3, .int (j + 1)), (4, .int (r_joined ((r_jn x i (h, d) t).2.1 12 ((16 * i) + t)) (h t))), (0, .ref (L (.inl 0))), (1, .int a), (2, .int (nI i))]) hx hb dX10_comesTo_134 hl (k := 1) rfl rfl (by decide) rfl (fun ls hl => ?_)
          refine lv_goto (tgt := 58) hx hb dX10_comesTo_137 (by decide) ?_
          exact absurd ht (by omega)
    | succ u ih =>
      intro t i j H locs ls ht hj hi eb h1 h2 h3 hw hS hl
      obtain ⟨c0, hc0⟩ := r_jn_b (i := i) (q := (h, d)) hcb t
      have hci : (nI i).toNatClampNeg = i := nI_clamp (by omega)
      refine lv_iload_n hx hb dX10_comesTo_58 rfl (lv_at hl 0 rfl) ?_
      refine lv_bipush (v := 8) hx hb dX10_comesTo_59 (by decide) ?_
      refine lv_aload_n hx hb dX10_comesTo_61 rfl (lv_at hl 1 rfl) ?_
      refine h_get15 X hw dX10_comesTo_62 ?_
      refine lv_iadd hx hb dX10_comesTo_65 ?_
      refine lv_icmp_ge (tgt := 140) hx hb dX10_comesTo_66 (by decide) (fun c_5 => ?_) (fun c_5 => ?_)
      · skip
        have c_5n : t ≥ (8 + d) := ngeT (a := t) (b := 8 + d) hj (nadd (a := 8) (b := d) rfl rfl) (by omega) (by omega) c_5
        have c_5m : ¬ t < (8 + d) := by omega
        refine lv_iconst (v := 1) hx hb dX10_comesTo_140 (by decide) ?_
        exact m_zret (b := (r_comes x om b (h, d)).1) X hr hlk hw hS (Nat.zero_le _) (Nat.zero_le _) (by first | exact absurd ht (by omega) | (have e9 : t = 8 + d := (by omega); subst e9; subst eb; simp only [r_comes, h1, hci, if_true]; rw [if_neg h2, if_pos h3]; done) | (have e9 : t = 8 + d := (by omega); subst e9; subst eb; simp only [r_comes, h1, hci, if_true]; rw [if_neg h2, if_pos h3]; rfl)) ⟨rfl, rfl, by first | exact absurd ht (by omega) | (have e9 : t = 8 + d := (by omega); subst e9; subst eb; simp only [r_comes, h1, hci, if_true]; rw [if_neg h2, if_pos h3]; done) | (have e9 : t = 8 + d := (by omega); subst e9; subst eb; simp only [r_comes, h1, hci, if_true]; rw [if_neg h2, if_pos h3]; rfl)⟩ dX10_comesTo_141
      · skip
        have c_5n : ¬ t ≥ (8 + d) := ngeF (a := t) (b := 8 + d) hj (nadd (a := 8) (b := d) rfl rfl) (by omega) (by omega) c_5
        have c_5m : t < (8 + d) := by omega
        refine lv_aload_n hx hb dX10_comesTo_69 rfl (lv_at hl 1 rfl) ?_
        refine r_get12 X hw dX10_comesTo_70 ?_
        refine lv_bipush (v := 16) hx hb dX10_comesTo_73 (by decide) ?_
        refine lv_iload_n hx hb dX10_comesTo_75 rfl (lv_at hl 3 rfl) ?_
        refine lv_imul hx hb dX10_comesTo_76 ?_
        refine lv_iload_n hx hb dX10_comesTo_77 rfl (lv_at hl 0 rfl) ?_
        refine lv_iadd hx hb dX10_comesTo_78 ?_
        refine h_ald12 (n := (16 * i) + t) X hw (nadd (a := 16 * i) (b := t) (nmul (a := 16) (b := i) rfl rfl) hj) (by omega) dX10_comesTo_79 ?_
        refine lv_aload_n hx hb dX10_comesTo_80 rfl (lv_at hl 1 rfl) ?_
        refine r_get14 X hw dX10_comesTo_81 ?_
        refine lv_iload_n hx hb dX10_comesTo_84 rfl (lv_at hl 0 rfl) ?_
        refine h_ald14 (n := t) X hw hj (by omega) dX10_comesTo_85 ?_
        refine m_calli (m_runS (As := [.int ((r_jn x i (h, d) t).2.1 12 ((16 * i) + t)), .int (h t)]) (rest := []) X (k_X10_joined Γ l L (rM Γ L (sH (r_jn x i (h, d) t) (h, d))) ((r_jn x i (h, d) t).2.1 12 ((16 * i) + t)) (h t) ) s_X10_joined ml_X10_122 hw hS rfl hl.1 ⟨Nat.le_of_ble_eq_true rfl, Nat.le_of_ble_eq_true rfl⟩ (Nat.le_of_ble_eq_true rfl) ⟨Nat.le_of_ble_eq_true rfl, Nat.le_of_ble_eq_true rfl⟩ dX10_comesTo_86) hS (fun r_7 L1 M1 H locs hp_6 hw hS => ?_)
        obtain ⟨rfl, e1, e2⟩ := hp_6
        rw [e1, e2] at hw; clear e1 e2
        refine lv_istore (lv' := [(4, .int (r_joined ((r_jn x i (h, d) t).2.1 12 ((16 * i) + t)) (h t))), (3, .int j), (0, .ref (L (.inl 0))), (1, .int a), (2, .int (nI i))]) hx hb dX10_comesTo_89 hl (by decide) rfl (fun ls hl => ?_)
        refine lv_aload_n hx hb dX10_comesTo_91 rfl (lv_at hl 2 rfl) ?_
        refine lv_dup hx hb dX10_comesTo_92 rfl ?_
        refine h_get16 X hw dX10_comesTo_93 ?_
        refine lv_iload hx hb dX10_comesTo_96 (lv_at hl 0 rfl) ?_
        refine lv_aload_n hx hb dX10_comesTo_98 rfl (lv_at hl 2 rfl) ?_
        refine r_get12 X hw dX10_comesTo_99 ?_
        refine lv_bipush (v := 16) hx hb dX10_comesTo_102 (by decide) ?_
        refine lv_iload_n hx hb dX10_comesTo_104 rfl (lv_at hl 4 rfl) ?_
        refine lv_imul hx hb dX10_comesTo_105 ?_
        refine lv_iload_n hx hb dX10_comesTo_106 rfl (lv_at hl 1 rfl) ?_
        refine lv_iadd hx hb dX10_comesTo_107 ?_
        refine h_ald12 (n := (16 * i) + t) X hw (nadd (a := 16 * i) (b := t) (nmul (a := 16) (b := i) rfl rfl) hj) (by omega) dX10_comesTo_108 ?_
        refine lv_icmp_eq (tgt := 116) hx hb dX10_comesTo_109 (by decide) (fun c_8 => ?_) (fun c_8 => ?_)
        · skip
          refine lv_iconst (v := 0) hx hb dX10_comesTo_116 (by decide) ?_
          refine lv_ior hx hb dX10_comesTo_117 ?_
          refine h_put16 X hw hS (nb_or (d := false) hc0 rfl).1 (nb_or (d := false) hc0 rfl).2 dX10_comesTo_118 (fun H locs hw hS => ?_)
          refine lv_aload_n hx hb dX10_comesTo_121 rfl (lv_at hl 2 rfl) ?_
          refine r_get12 X hw dX10_comesTo_122 ?_
          refine lv_bipush (v := 16) hx hb dX10_comesTo_125 (by decide) ?_
          refine lv_iload_n hx hb dX10_comesTo_127 rfl (lv_at hl 4 rfl) ?_
          refine lv_imul hx hb dX10_comesTo_128 ?_
          refine lv_iload_n hx hb dX10_comesTo_129 rfl (lv_at hl 1 rfl) ?_
          refine lv_iadd hx hb dX10_comesTo_130 ?_
          refine lv_iload hx hb dX10_comesTo_131 (lv_at hl 0 rfl) ?_
          refine h_ast12 (n := (16 * i) + t) X hw hS (nadd (a := 16 * i) (b := t) (nmul (a := 16) (b := i) rfl rfl) hj) (by omega) dX10_comesTo_133 (fun H locs hw hS => ?_)
          refine lv_iinc (v := j + 1) (lv' := [(3, .int (j + 1)), (4, .int (r_joined ((r_jn x i (h, d) t).2.1 12 ((16 * i) + t)) (h t))), (0, .ref (L (.inl 0))), (1, .int a), (2, .int (nI i))]) hx hb dX10_comesTo_134 hl (k := 1) rfl rfl (by decide) rfl (fun ls hl => ?_)
          refine lv_goto (tgt := 58) hx hb dX10_comesTo_137 (by decide) ?_
          exact ih (t + 1) i _ H locs ls (by omega) (nadd (a := t) (b := 1) hj rfl) hi eb h1 h2 h3 (by rw [← r_jn_f c_8]; exact hw) hS (lv_sub hl [0, 2, 3, 4] rfl)
        · skip
          refine lv_iconst (v := 1) hx hb dX10_comesTo_112 (by decide) ?_
          refine lv_goto (tgt := 117) hx hb dX10_comesTo_113 (by decide) ?_
          refine lv_ior hx hb dX10_comesTo_117 ?_
          refine h_put16 X hw hS (nb_or (d := true) hc0 rfl).1 (nb_or (d := true) hc0 rfl).2 dX10_comesTo_118 (fun H locs hw hS => ?_)
          refine lv_aload_n hx hb dX10_comesTo_121 rfl (lv_at hl 2 rfl) ?_
          refine r_get12 X hw dX10_comesTo_122 ?_
          refine lv_bipush (v := 16) hx hb dX10_comesTo_125 (by decide) ?_
          refine lv_iload_n hx hb dX10_comesTo_127 rfl (lv_at hl 4 rfl) ?_
          refine lv_imul hx hb dX10_comesTo_128 ?_
          refine lv_iload_n hx hb dX10_comesTo_129 rfl (lv_at hl 1 rfl) ?_
          refine lv_iadd hx hb dX10_comesTo_130 ?_
          refine lv_iload hx hb dX10_comesTo_131 (lv_at hl 0 rfl) ?_
          refine h_ast12 (n := (16 * i) + t) X hw hS (nadd (a := 16 * i) (b := t) (nmul (a := 16) (b := i) rfl rfl) hj) (by omega) dX10_comesTo_133 (fun H locs hw hS => ?_)
          refine lv_iinc (v := j + 1) (lv' := [(3, .int (j + 1)), (4, .int (r_joined ((r_jn x i (h, d) t).2.1 12 ((16 * i) + t)) (h t))), (0, .ref (L (.inl 0))), (1, .int a), (2, .int (nI i))]) hx hb dX10_comesTo_134 hl (k := 1) rfl rfl (by decide) rfl (fun ls hl => ?_)
          refine lv_goto (tgt := 58) hx hb dX10_comesTo_137 (by decide) ?_
          exact ih (t + 1) i _ H locs ls (by omega) (nadd (a := t) (b := 1) hj rfl) hi eb h1 h2 h3 (by rw [← r_jn_t c_8]; exact hw) hS (lv_sub hl [0, 2, 3, 4] rfl)
  refine lv_iload_n hx hb dX10_comesTo_0 rfl (lv_at hl 2 rfl) ?_
  refine lv_i2l (v := b.toInt64) hx hb dX10_comesTo_1 rfl ?_
  refine lv_lconst (v := 0) hx hb dX10_comesTo_2 (by decide) ?_
  refine lv_aload_n hx hb dX10_comesTo_3 rfl (lv_at hl 0 rfl) ?_
  refine r_get2 X hw dX10_comesTo_4 ?_
  refine lv_iload_n hx hb dX10_comesTo_7 rfl (lv_at hl 1 rfl) ?_
  refine h_ald2 (n := k) X hw ha (by omega) dX10_comesTo_8 ?_
  refine lv_iconst (v := 1) hx hb dX10_comesTo_9 (by decide) ?_
  refine lv_isub hx hb dX10_comesTo_10 ?_
  refine lv_i2l (v := ((x.2.1 2 k) - 1).toInt64) hx hb dX10_comesTo_11 rfl ?_
  refine m_calli (m_runS (As := [.long b.toInt64, .long 0, .long (((x.2.1 2 k) - 1).toInt64)]) (rest := []) X (k_X10_isIn Γ l L (rM Γ L (sH x (h, d))) b.toInt64 0 (((x.2.1 2 k) - 1).toInt64) ) s_X10_isIn ml_X10_79 hw hS rfl hl.1 ⟨Nat.le_of_ble_eq_true rfl, Nat.le_of_ble_eq_true rfl⟩ (Nat.le_of_ble_eq_true rfl) ⟨Nat.le_of_ble_eq_true rfl, Nat.le_of_ble_eq_true rfl⟩ dX10_comesTo_12) hS (fun r_10 L1 M1 H locs hp_9 hw hS => ?_)
  obtain ⟨rfl, e1, e2⟩ := hp_9
  rw [e1, e2] at hw; clear e1 e2
  refine lv_if_ne (tgt := 20) hx hb dX10_comesTo_15 (by decide) (fun c_11 => ?_) (fun c_11 => ?_)
  · skip
    have c_11 := bI_t c_11
    rw [hom, isM_eq2 (by omega)] at c_11
    have c_110 := c_11
    obtain ⟨i, hi, rfl⟩ := isM_nat c_110
    have hci : (nI i).toNatClampNeg = i := nI_clamp (by omega)
    refine lv_aload_n hx hb dX10_comesTo_20 rfl (lv_at hl 0 rfl) ?_
    refine r_get11 X hw dX10_comesTo_21 ?_
    refine lv_iload_n hx hb dX10_comesTo_24 rfl (lv_at hl 2 rfl) ?_
    refine h_ald11 (n := i) X hw rfl (by omega) dX10_comesTo_25 ?_
    refine lv_if_ge (tgt := 41) hx hb dX10_comesTo_26 (by decide) (fun c_12 => ?_) (fun c_12 => ?_)
    · skip
      refine lv_aload_n hx hb dX10_comesTo_41 rfl (lv_at hl 0 rfl) ?_
      refine r_get11 X hw dX10_comesTo_42 ?_
      refine lv_iload_n hx hb dX10_comesTo_45 rfl (lv_at hl 2 rfl) ?_
      refine h_ald11 (n := i) X hw rfl (by omega) dX10_comesTo_46 ?_
      refine lv_aload_n hx hb dX10_comesTo_47 rfl (lv_at hl 0 rfl) ?_
      refine h_get15 X hw dX10_comesTo_48 ?_
      refine lv_icmp_eq (tgt := 56) hx hb dX10_comesTo_51 (by decide) (fun c_13 => ?_) (fun c_13 => ?_)
      · skip
        refine lv_iconst (v := 0) hx hb dX10_comesTo_56 (by decide) ?_
        refine lv_istore_n (lv' := [(3, .int 0), (0, .ref (L (.inl 0))), (1, .int a), (2, .int (nI i))]) hx hb dX10_comesTo_57 rfl hl (by decide) rfl (fun ls hl => ?_)
        exact K58 (8 + d) 0 i _ _ _ ls (by omega) rfl hi rfl (by assumption) (Int32.not_lt.mpr (by assumption)) (by assumption) hw hS hl
      · skip
        refine lv_iconst (v := 0) hx hb dX10_comesTo_54 (by decide) ?_
        exact m_zret (b := (r_comes x om (nI i) (h, d)).1) X hr hlk hw hS (Nat.zero_le _) (Nat.zero_le _) (by clear K58 hb hx hl hS hw hnm hlk hr X; first | (simp_all [r_comes, bI]; done) | (simp_all [r_comes, bI]; rfl) | (have z9 := Int32.not_lt.mpr (by assumption); simp_all [r_comes, bI]; done) | (have z9 := Int32.not_le.mp (by assumption); simp_all [r_comes, bI]; done) | (simp only [r_comes, hci]; rw [if_pos (by assumption), if_pos (Int32.not_le.mp (by assumption))]; rfl) | (simp only [r_comes, hci]; rw [if_pos (by assumption), if_neg (Int32.not_lt.mpr (by assumption)), if_neg (by assumption)]; done) | (simp only [r_comes, hci]; rw [if_pos (by assumption), if_neg (Int32.not_lt.mpr (by assumption)), if_neg (by assumption)]; rfl)) ⟨rfl, rfl, by clear K58 hb hx hl hS hw hnm hlk hr X; first | (simp_all [r_comes, bI]; done) | (simp_all [r_comes, bI]; rfl) | (have z9 := Int32.not_lt.mpr (by assumption); simp_all [r_comes, bI]; done) | (have z9 := Int32.not_le.mp (by assumption); simp_all [r_comes, bI]; done) | (simp only [r_comes, hci]; rw [if_pos (by assumption), if_pos (Int32.not_le.mp (by assumption))]; rfl) | (simp only [r_comes, hci]; rw [if_pos (by assumption), if_neg (Int32.not_lt.mpr (by assumption)), if_neg (by assumption)]; done) | (simp only [r_comes, hci]; rw [if_pos (by assumption), if_neg (Int32.not_lt.mpr (by assumption)), if_neg (by assumption)]; rfl)⟩ dX10_comesTo_55
    · skip
      refine lv_aload_n hx hb dX10_comesTo_29 rfl (lv_at hl 0 rfl) ?_
      refine lv_iload_n hx hb dX10_comesTo_30 rfl (lv_at hl 2 rfl) ?_
      refine m_callv (m_runV (i := .inl 0) (ci := 8) (As := [.int (nI i)]) (rest := []) X (k_X10_sees Γ l L x h d (nI i) i rfl (by omega)) v_X10_sees ml_X10_194 hw hS rfl rfl rfl rfl hl.1 ⟨Nat.le_of_ble_eq_true rfl, Nat.le_of_ble_eq_true rfl⟩ (Nat.le_of_ble_eq_true rfl) ⟨Nat.le_of_ble_eq_true rfl, Nat.le_of_ble_eq_true rfl⟩ dX10_comesTo_31) hS (fun L1 M1 H locs hp_14 hw hS => ?_)
      obtain ⟨e1, e2⟩ := hp_14
      rw [e1, e2] at hw; clear e1 e2
      refine lv_aload_n hx hb dX10_comesTo_34 rfl (lv_at hl 0 rfl) ?_
      refine lv_iconst (v := 1) hx hb dX10_comesTo_35 (by decide) ?_
      refine h_put16 X hw hS rfl rfl dX10_comesTo_36 (fun H locs hw hS => ?_)
      refine lv_iconst (v := 1) hx hb dX10_comesTo_39 (by decide) ?_
      exact m_zret (b := (r_comes x om (nI i) (h, d)).1) X hr hlk hw hS (Nat.zero_le _) (Nat.zero_le _) (by clear K58 hb hx hl hS hw hnm hlk hr X; first | (simp_all [r_comes, bI]; done) | (simp_all [r_comes, bI]; rfl) | (have z9 := Int32.not_lt.mpr (by assumption); simp_all [r_comes, bI]; done) | (have z9 := Int32.not_le.mp (by assumption); simp_all [r_comes, bI]; done) | (simp only [r_comes, hci]; rw [if_pos (by assumption), if_pos (Int32.not_le.mp (by assumption))]; rfl) | (simp only [r_comes, hci]; rw [if_pos (by assumption), if_neg (Int32.not_lt.mpr (by assumption)), if_neg (by assumption)]; done) | (simp only [r_comes, hci]; rw [if_pos (by assumption), if_neg (Int32.not_lt.mpr (by assumption)), if_neg (by assumption)]; rfl)) ⟨rfl, rfl, by clear K58 hb hx hl hS hw hnm hlk hr X; first | (simp_all [r_comes, bI]; done) | (simp_all [r_comes, bI]; rfl) | (have z9 := Int32.not_lt.mpr (by assumption); simp_all [r_comes, bI]; done) | (have z9 := Int32.not_le.mp (by assumption); simp_all [r_comes, bI]; done) | (simp only [r_comes, hci]; rw [if_pos (by assumption), if_pos (Int32.not_le.mp (by assumption))]; rfl) | (simp only [r_comes, hci]; rw [if_pos (by assumption), if_neg (Int32.not_lt.mpr (by assumption)), if_neg (by assumption)]; done) | (simp only [r_comes, hci]; rw [if_pos (by assumption), if_neg (Int32.not_lt.mpr (by assumption)), if_neg (by assumption)]; rfl)⟩ dX10_comesTo_40
  · skip
    have c_11 := bI_f c_11
    rw [hom, isM_eq2 (by omega)] at c_11
    refine lv_iconst (v := 0) hx hb dX10_comesTo_18 (by decide) ?_
    exact m_zret (b := (r_comes x om b (h, d)).1) X hr hlk hw hS (Nat.zero_le _) (Nat.zero_le _) (by clear K58 hb hx hl hS hw hnm hlk hr X; first | (simp_all [r_comes, bI]; done) | (simp_all [r_comes, bI]; rfl) | (have z9 := Int32.not_lt.mpr (by assumption); simp_all [r_comes, bI]; done) | (have z9 := Int32.not_le.mp (by assumption); simp_all [r_comes, bI]; done) | (simp only [r_comes, hci]; rw [if_pos (by assumption), if_pos (Int32.not_le.mp (by assumption))]; rfl) | (simp only [r_comes, hci]; rw [if_pos (by assumption), if_neg (Int32.not_lt.mpr (by assumption)), if_neg (by assumption)]; done) | (simp only [r_comes, hci]; rw [if_pos (by assumption), if_neg (Int32.not_lt.mpr (by assumption)), if_neg (by assumption)]; rfl)) ⟨rfl, rfl, by clear K58 hb hx hl hS hw hnm hlk hr X; first | (simp_all [r_comes, bI]; done) | (simp_all [r_comes, bI]; rfl) | (have z9 := Int32.not_lt.mpr (by assumption); simp_all [r_comes, bI]; done) | (have z9 := Int32.not_le.mp (by assumption); simp_all [r_comes, bI]; done) | (simp only [r_comes, hci]; rw [if_pos (by assumption), if_pos (Int32.not_le.mp (by assumption))]; rfl) | (simp only [r_comes, hci]; rw [if_pos (by assumption), if_neg (Int32.not_lt.mpr (by assumption)), if_neg (by assumption)]; done) | (simp only [r_comes, hci]; rw [if_pos (by assumption), if_neg (Int32.not_lt.mpr (by assumption)), if_neg (by assumption)]; rfl)⟩ dX10_comesTo_19
