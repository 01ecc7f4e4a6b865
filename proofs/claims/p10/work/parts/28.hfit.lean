/-! handlers and frames -/
theorem isInN {a b c : Int32} {i l h : Nat} (ea : a = nI i) (eb : b = nI l) (ec : c = nI h) (hi : i < 2 ^ 31) (hl : l < 2 ^ 31) (hh : h < 2 ^ 31) : r_isIn a.toInt64 b.toInt64 c.toInt64 = decide (l ≤ i ∧ i ≤ h) := by
  apply Bool.eq_iff_iff.mpr
  rw [r_isIn_iff, i64_toInt, i64_toInt, i64_toInt, ea, eb, ec, nI_toInt hi, nI_toInt hl, nI_toInt hh, decide_eq_true_iff]
  omega
theorem p_fin {b0 ag8 ag2 : Bool} (h : (b0 && ag2) = false) (hm : ag2 = false → ag8 = false) : (b0 && ag2) = (true && (!true || (b0 && ag8))) := by
  cases b0
  · rfl
  · simp only [Bool.true_and] at h
    rw [h, hm h]
    rfl
def p_b0 (x : RS) (om f at_ : Nat) : Bool := decide (at_ < om) && (decide (x.2.1 7 f = 1) && r_goes 1 (x.2.1 8 (16 * f + 8)))
def p_hok (x : RS) (k om : Nat) (hf hto hat : Nat → Nat) (ii : Nat) (h : Nat → Int32) (g : Nat) : Bool := !decide (hf g ≤ ii ∧ ii ≤ hto g - 1) || (p_b0 x om (40 * k + hat g) (hat g) && p_allgo h (fun j => x.2.1 8 (16 * (40 * k + hat g) + j)) 8)
def p_hfits (x : RS) (k om : Nat) (hf hto hat : Nat → Nat) (ii : Nat) (h : Nat → Int32) : Nat → Bool
  | 0 => true
  | n + 1 => p_hfits x k om hf hto hat ii h n && p_hok x k om hf hto hat ii h n
theorem p_hfits_f {x : RS} {k om : Nat} {hf hto hat : Nat → Nat} {ii : Nat} {h : Nat → Int32} {t : Nat} (c : p_hfits x k om hf hto hat ii h t = false) : ∀ u, p_hfits x k om hf hto hat ii h (t + u) = false
  | 0 => c
  | u + 1 => by show (p_hfits x k om hf hto hat ii h (t + u) && _) = false; rw [p_hfits_f c u]; rfl
/-- what is known of a METHOD's HANDLERS -/
def p_HH (x : RS) (k n : Nat) (hf hto hat hwh : Nat → Nat) : Prop := ∀ g, g < n → x.2.1 6 (4 * (6 * k + g)) = nI (hf g) ∧ x.2.1 6 (4 * (6 * k + g) + 1) = nI (hto g) ∧ x.2.1 6 (4 * (6 * k + g) + 2) = nI (hat g) ∧ x.2.1 6 (4 * (6 * k + g) + 3) = nI (hwh g) ∧ hf g < hto g ∧ hto g ≤ 40 ∧ hat g < 40 ∧ hwh g ≤ 7
theorem v_X10_handlersFit : mVm yX10_handlersFit cX10_handlersFit 8 (some .boolean) 2 := ⟨cd_X10_handlersFit, im_X10_handlersFit, se_X10_handlersFit, ini_X10, by decide, by decide, by decide +kernel⟩
set_option maxHeartbeats 4000000 in
set_option maxRecDepth 100000 in
theorem k_X10_handlersFit (Γ : mG) (l : Launch) (L : mI → Nat) (x : RS) (h : Nat → Int32) (d : Nat) (a b : Int32) (k ii om hn : Nat) (hf hto hat hwh : Nat → Nat) (ha : a = nI k) (hk : k < 8) (hbi : b = nI ii) (hii : ii < 40) (hom : x.2.1 2 k = nI om) (ho40 : om ≤ 40) (hhn : x.2.1 5 k = nI hn) (hn6 : hn ≤ 6) (HH : p_HH x k hn hf hto hat hwh) : mMet Γ l yX10_handlersFit cX10_handlersFit 8 (some .boolean) { frames := 4, cells := 0, slots := 0, locals := 86 } [.ref (L (.inl 0)), .int a, .int b] L (rM Γ L (sH x (h, d))) (mQi Γ (fun r L1 M1 => r = bI (p_hfits x k om hf hto hat ii h hn) ∧ L1 = L ∧ M1 = rM Γ L (sH x (h, d)))) := by
  refine m_start (by decide) (Nat.le_of_ble_eq_true rfl) ?_
  intro p e s m args below meth c A ls X hr hlk hnm hw hS hl
  have hx := X.1.1
  have hb := X.1.2.1
  have hl : lv_has ls 8 [(0, .ref (L (.inl 0))), (1, .int a), (2, .int b)] := hl
  have K5 : ∀ (u t : Nat) (j : Int32) (g : Bool) (H : Heap) (locs : List Loc) (ls : Array Slot), t + u = hn → j = nI t → g = p_hfits x k om hf hto hat ii h t → mW Γ.1 vwCl A L (rM Γ L (sH x (h, d))) H → va_S A s.heap H locs → lv_has ls 8 [(4, .int j), (3, .int (bI g)), (0, .ref (L (.inl 0))), (1, .int a), (2, .int b)] → W p l e { frames := 4, cells := 0, slots := 0, locals := 86 } s m args below meth c H locs 0 0 (MQ below (mQi Γ (fun r L1 M1 => r = bI (p_hfits x k om hf hto hat ii h hn) ∧ L1 = L ∧ M1 = rM Γ L (sH x (h, d))) A) args s 0 0 A) (F0 m 5 ls []) := by
    intro u
    induction u with
    | zero =>
      intro t j g H locs ls ht hj hg hw hS hl
      refine lv_iload hx hb dX10_handlersFit_5 (lv_at hl 0 rfl) ?_
      refine lv_aload_n hx hb dX10_handlersFit_7 rfl (lv_at hl 2 rfl) ?_
      refine r_get5 X hw dX10_handlersFit_8 ?_
      refine lv_iload_n hx hb dX10_handlersFit_11 rfl (lv_at hl 3 rfl) ?_
      refine h_ald5 (n := k) X hw ha (by omega) dX10_handlersFit_12 ?_
      refine lv_icmp_ge (tgt := 183) hx hb dX10_handlersFit_13 (by decide) (fun c_1 => ?_) (fun c_1 => ?_)
      · skip
        have c_1n : t ≥ hn := ngeT (a := t) (b := hn) hj hhn (by omega) (by omega) c_1
        have c_1m : ¬ t < hn := by omega
        refine lv_iload_n hx hb dX10_handlersFit_183 rfl (lv_at hl 1 rfl) ?_
        exact m_zret (b := p_hfits x k om hf hto hat ii h hn) X hr hlk hw hS (Nat.zero_le _) (Nat.zero_le _) (by first | (have e9 : t = hn := (by omega); rw [← e9, hg]; done) | (have e8 := p_hfits_f (hg.symm.trans c_1n) u; rw [show t + u = hn by omega] at e8; rw [e8]; rw [c_1n]; done) | (have e8 := p_hfits_f (hg.symm.trans c_1n) (u + 1); rw [show t + (u + 1) = hn by omega] at e8; rw [e8]; rw [c_1n]; done)) ⟨rfl, rfl, rfl⟩ dX10_handlersFit_184
      · skip
        have c_1n : ¬ t ≥ hn := ngeF (a := t) (b := hn) hj hhn (by omega) (by omega) c_1
        have c_1m : t < hn := by omega
        exact absurd ht (by omega)
    | succ u ih =>
      intro t j g H locs ls ht hj hg hw hS hl
      obtain ⟨q1, q2, q3, -, q5, q6, q7, -⟩ := HH t (by omega)
      have K136 : ∀ (u2 t2 : Nat) (j2 w : Int32) (g2 : Bool) (H : Heap) (locs : List Loc) (ls : Array Slot), t2 + u2 = 8 → j2 = nI t2 → w = nI (40 * k + hat t) → g2 = (p_b0 x om (40 * k + hat t) (hat t) && p_allgo h (fun j => x.2.1 8 (16 * (40 * k + hat t) + j)) t2) → g = true → (hf t ≤ ii ∧ ii ≤ hto t - 1) → mW Γ.1 vwCl A L (rM Γ L (sH x (h, d))) H → va_S A s.heap H locs → lv_has ls 8 [(7, .int j2), (3, .int (bI g2)), (6, .int w), (4, .int j), (0, .ref (L (.inl 0))), (1, .int a), (2, .int b)] → W p l e { frames := 4, cells := 0, slots := 0, locals := 86 } s m args below meth c H locs 0 0 (MQ below (mQi Γ (fun r L1 M1 => r = bI (p_hfits x k om hf hto hat ii h hn) ∧ L1 = L ∧ M1 = rM Γ L (sH x (h, d))) A) args s 0 0 A) (F0 m 136 ls []) := by
        intro u2
        induction u2 with
        | zero =>
          intro t2 j2 w g2 H locs ls ht2 hj2 hwf hg2 hgt hcov hw hS hl
          refine lv_iload hx hb dX10_handlersFit_136 (lv_at hl 0 rfl) ?_
          refine lv_bipush (v := 8) hx hb dX10_handlersFit_138 (by decide) ?_
          refine lv_icmp_ge (tgt := 177) hx hb dX10_handlersFit_140 (by decide) (fun c_2 => ?_) (fun c_2 => ?_)
          · skip
            have c_2n : t2 ≥ 8 := ngeT (a := t2) (b := 8) hj2 rfl (by omega) (by omega) c_2
            have c_2m : ¬ t2 < 8 := by omega
            refine lv_iinc (v := j + 1) (lv' := [(4, .int (j + 1)), (7, .int j2), (3, .int (bI g2)), (6, .int w), (0, .ref (L (.inl 0))), (1, .int a), (2, .int b)]) hx hb dX10_handlersFit_177 hl (k := 3) rfl rfl (by decide) rfl (fun ls hl => ?_)
            refine lv_goto (tgt := 5) hx hb dX10_handlersFit_180 (by decide) ?_
            exact ih (t + 1) _ _ H locs ls (by omega) (nadd (a := t) (b := 1) hj rfl) (by show _ = (p_hfits x k om hf hto hat ii h t && p_hok x k om hf hto hat ii h t); rw [← hg, hgt, hg2]; unfold p_hok; rw [decide_eq_true hcov]; first | (have e9 : t2 = 8 := (by omega); subst e9; rfl) | exact p_fin (hg2.symm.trans c_2n) (fun z => by have e8 := p_allgo_f z 0; rw [show t2 + 0 = 8 by omega] at e8; exact e8)) hw hS (lv_sub hl [0, 2, 4, 5, 6] rfl)
          · skip
            have c_2n : ¬ t2 ≥ 8 := ngeF (a := t2) (b := 8) hj2 rfl (by omega) (by omega) c_2
            have c_2m : t2 < 8 := by omega
            refine lv_iload_n hx hb dX10_handlersFit_143 rfl (lv_at hl 1 rfl) ?_
            refine lv_if_eq (tgt := 177) hx hb dX10_handlersFit_144 (by decide) (fun c_3 => ?_) (fun c_3 => ?_)
            · skip
              have c_3 := bI_f c_3
              refine lv_iinc (v := j + 1) (lv' := [(4, .int (j + 1)), (7, .int j2), (3, .int (bI g2)), (6, .int w), (0, .ref (L (.inl 0))), (1, .int a), (2, .int b)]) hx hb dX10_handlersFit_177 hl (k := 3) rfl rfl (by decide) rfl (fun ls hl => ?_)
              refine lv_goto (tgt := 5) hx hb dX10_handlersFit_180 (by decide) ?_
              exact ih (t + 1) _ _ H locs ls (by omega) (nadd (a := t) (b := 1) hj rfl) (by show _ = (p_hfits x k om hf hto hat ii h t && p_hok x k om hf hto hat ii h t); rw [← hg, hgt, hg2]; unfold p_hok; rw [decide_eq_true hcov]; first | (have e9 : t2 = 8 := (by omega); subst e9; rfl) | exact p_fin (hg2.symm.trans c_3) (fun z => by have e8 := p_allgo_f z 0; rw [show t2 + 0 = 8 by omega] at e8; exact e8)) hw hS (lv_sub hl [0, 2, 4, 5, 6] rfl)
            · skip
              have c_3 := bI_t c_3
              refine lv_aload_n hx hb dX10_handlersFit_147 rfl (lv_at hl 4 rfl) ?_
              refine r_get14 X hw dX10_handlersFit_148 ?_
              refine lv_iload hx hb dX10_handlersFit_151 (lv_at hl 0 rfl) ?_
              refine h_ald14 (n := t2) X hw hj2 (by omega) dX10_handlersFit_153 ?_
              refine lv_aload_n hx hb dX10_handlersFit_154 rfl (lv_at hl 4 rfl) ?_
              refine r_get8 X hw dX10_handlersFit_155 ?_
              refine lv_bipush (v := 16) hx hb dX10_handlersFit_158 (by decide) ?_
              refine lv_iload hx hb dX10_handlersFit_160 (lv_at hl 2 rfl) ?_
              refine lv_imul hx hb dX10_handlersFit_162 ?_
              refine lv_iload hx hb dX10_handlersFit_163 (lv_at hl 0 rfl) ?_
              refine lv_iadd hx hb dX10_handlersFit_165 ?_
              refine h_ald8 (n := (16 * (40 * k + hat t)) + t2) X hw (nadd (a := 16 * (40 * k + hat t)) (b := t2) (nmul (a := 16) (b := 40 * k + hat t) rfl hwf) hj2) (by omega) dX10_handlersFit_166 ?_
              refine m_calli (m_runS (As := [.int (h t2), .int (x.2.1 8 ((16 * (40 * k + hat t)) + t2))]) (rest := []) X (k_X10_goes Γ l L (rM Γ L (sH x (h, d))) (h t2) (x.2.1 8 ((16 * (40 * k + hat t)) + t2))) s_X10_goes ml_X10_125 hw hS rfl hl.1 ⟨Nat.le_of_ble_eq_true rfl, Nat.le_of_ble_eq_true rfl⟩ (Nat.le_of_ble_eq_true rfl) ⟨Nat.le_of_ble_eq_true rfl, Nat.le_of_ble_eq_true rfl⟩ dX10_handlersFit_167) hS (fun r_5 L1 M1 H locs hp_4 hw hS => ?_)
              obtain ⟨rfl, e1, e2⟩ := hp_4
              rw [e1, e2] at hw; clear e1 e2
              refine lv_istore_n (lv' := [(3, .int (bI (r_goes (h t2) (x.2.1 8 ((16 * (40 * k + hat t)) + t2))))), (7, .int j2), (6, .int w), (4, .int j), (0, .ref (L (.inl 0))), (1, .int a), (2, .int b)]) hx hb dX10_handlersFit_170 rfl hl (by decide) rfl (fun ls hl => ?_)
              refine lv_iinc (v := j2 + 1) (lv' := [(7, .int (j2 + 1)), (3, .int (bI (r_goes (h t2) (x.2.1 8 ((16 * (40 * k + hat t)) + t2))))), (6, .int w), (4, .int j), (0, .ref (L (.inl 0))), (1, .int a), (2, .int b)]) hx hb dX10_handlersFit_171 hl (k := 1) rfl rfl (by decide) rfl (fun ls hl => ?_)
              refine lv_goto (tgt := 136) hx hb dX10_handlersFit_174 (by decide) ?_
              exact absurd ht2 (by omega)
        | succ u2 ih2 =>
          intro t2 j2 w g2 H locs ls ht2 hj2 hwf hg2 hgt hcov hw hS hl
          refine lv_iload hx hb dX10_handlersFit_136 (lv_at hl 0 rfl) ?_
          refine lv_bipush (v := 8) hx hb dX10_handlersFit_138 (by decide) ?_
          refine lv_icmp_ge (tgt := 177) hx hb dX10_handlersFit_140 (by decide) (fun c_6 => ?_) (fun c_6 => ?_)
          · skip
            have c_6n : t2 ≥ 8 := ngeT (a := t2) (b := 8) hj2 rfl (by omega) (by omega) c_6
            have c_6m : ¬ t2 < 8 := by omega
            refine lv_iinc (v := j + 1) (lv' := [(4, .int (j + 1)), (7, .int j2), (3, .int (bI g2)), (6, .int w), (0, .ref (L (.inl 0))), (1, .int a), (2, .int b)]) hx hb dX10_handlersFit_177 hl (k := 3) rfl rfl (by decide) rfl (fun ls hl => ?_)
            refine lv_goto (tgt := 5) hx hb dX10_handlersFit_180 (by decide) ?_
            exact ih (t + 1) _ _ H locs ls (by omega) (nadd (a := t) (b := 1) hj rfl) (by show _ = (p_hfits x k om hf hto hat ii h t && p_hok x k om hf hto hat ii h t); rw [← hg, hgt, hg2]; unfold p_hok; rw [decide_eq_true hcov]; first | (have e9 : t2 = 8 := (by omega); subst e9; rfl) | exact p_fin (hg2.symm.trans c_6n) (fun z => by have e8 := p_allgo_f z (u2 + 1); rw [show t2 + (u2 + 1) = 8 by omega] at e8; exact e8)) hw hS (lv_sub hl [0, 2, 4, 5, 6] rfl)
          · skip
            have c_6n : ¬ t2 ≥ 8 := ngeF (a := t2) (b := 8) hj2 rfl (by omega) (by omega) c_6
            have c_6m : t2 < 8 := by omega
            refine lv_iload_n hx hb dX10_handlersFit_143 rfl (lv_at hl 1 rfl) ?_
            refine lv_if_eq (tgt := 177) hx hb dX10_handlersFit_144 (by decide) (fun c_7 => ?_) (fun c_7 => ?_)
            · skip
              have c_7 := bI_f c_7
              refine lv_iinc (v := j + 1) (lv' := [(4, .int (j + 1)), (7, .int j2), (3, .int (bI g2)), (6, .int w), (0, .ref (L (.inl 0))), (1, .int a), (2, .int b)]) hx hb dX10_handlersFit_177 hl (k := 3) rfl rfl (by decide) rfl (fun ls hl => ?_)
              refine lv_goto (tgt := 5) hx hb dX10_handlersFit_180 (by decide) ?_
              exact ih (t + 1) _ _ H locs ls (by omega) (nadd (a := t) (b := 1) hj rfl) (by show _ = (p_hfits x k om hf hto hat ii h t && p_hok x k om hf hto hat ii h t); rw [← hg, hgt, hg2]; unfold p_hok; rw [decide_eq_true hcov]; first | (have e9 : t2 = 8 := (by omega); subst e9; rfl) | exact p_fin (hg2.symm.trans c_7) (fun z => by have e8 := p_allgo_f z (u2 + 1); rw [show t2 + (u2 + 1) = 8 by omega] at e8; exact e8)) hw hS (lv_sub hl [0, 2, 4, 5, 6] rfl)
            · skip
              have c_7 := bI_t c_7
              refine lv_aload_n hx hb dX10_handlersFit_147 rfl (lv_at hl 4 rfl) ?_
              refine r_get14 X hw dX10_handlersFit_148 ?_
              refine lv_iload hx hb dX10_handlersFit_151 (lv_at hl 0 rfl) ?_
              refine h_ald14 (n := t2) X hw hj2 (by omega) dX10_handlersFit_153 ?_
              refine lv_aload_n hx hb dX10_handlersFit_154 rfl (lv_at hl 4 rfl) ?_
              refine r_get8 X hw dX10_handlersFit_155 ?_
              refine lv_bipush (v := 16) hx hb dX10_handlersFit_158 (by decide) ?_
              refine lv_iload hx hb dX10_handlersFit_160 (lv_at hl 2 rfl) ?_
              refine lv_imul hx hb dX10_handlersFit_162 ?_
              refine lv_iload hx hb dX10_handlersFit_163 (lv_at hl 0 rfl) ?_
              refine lv_iadd hx hb dX10_handlersFit_165 ?_
              refine h_ald8 (n := (16 * (40 * k + hat t)) + t2) X hw (nadd (a := 16 * (40 * k + hat t)) (b := t2) (nmul (a := 16) (b := 40 * k + hat t) rfl hwf) hj2) (by omega) dX10_handlersFit_166 ?_
              refine m_calli (m_runS (As := [.int (h t2), .int (x.2.1 8 ((16 * (40 * k + hat t)) + t2))]) (rest := []) X (k_X10_goes Γ l L (rM Γ L (sH x (h, d))) (h t2) (x.2.1 8 ((16 * (40 * k + hat t)) + t2))) s_X10_goes ml_X10_125 hw hS rfl hl.1 ⟨Nat.le_of_ble_eq_true rfl, Nat.le_of_ble_eq_true rfl⟩ (Nat.le_of_ble_eq_true rfl) ⟨Nat.le_of_ble_eq_true rfl, Nat.le_of_ble_eq_true rfl⟩ dX10_handlersFit_167) hS (fun r_9 L1 M1 H locs hp_8 hw hS => ?_)
              obtain ⟨rfl, e1, e2⟩ := hp_8
              rw [e1, e2] at hw; clear e1 e2
              refine lv_istore_n (lv' := [(3, .int (bI (r_goes (h t2) (x.2.1 8 ((16 * (40 * k + hat t)) + t2))))), (7, .int j2), (6, .int w), (4, .int j), (0, .ref (L (.inl 0))), (1, .int a), (2, .int b)]) hx hb dX10_handlersFit_170 rfl hl (by decide) rfl (fun ls hl => ?_)
              refine lv_iinc (v := j2 + 1) (lv' := [(7, .int (j2 + 1)), (3, .int (bI (r_goes (h t2) (x.2.1 8 ((16 * (40 * k + hat t)) + t2))))), (6, .int w), (4, .int j), (0, .ref (L (.inl 0))), (1, .int a), (2, .int b)]) hx hb dX10_handlersFit_171 hl (k := 1) rfl rfl (by decide) rfl (fun ls hl => ?_)
              refine lv_goto (tgt := 136) hx hb dX10_handlersFit_174 (by decide) ?_
              exact ih2 (t2 + 1) _ _ _ H locs ls (by omega) (nadd (a := t2) (b := 1) hj2 rfl) hwf (by show _ = (p_b0 x om (40 * k + hat t) (hat t) && (p_allgo h (fun j => x.2.1 8 (16 * (40 * k + hat t) + j)) t2 && _)); rw [← Bool.and_assoc, ← hg2, c_7]; rfl) hgt hcov hw hS (lv_sub hl [0, 1, 2, 3, 4, 5, 6] rfl)
      refine lv_iload hx hb dX10_handlersFit_5 (lv_at hl 0 rfl) ?_
      refine lv_aload_n hx hb dX10_handlersFit_7 rfl (lv_at hl 2 rfl) ?_
      refine r_get5 X hw dX10_handlersFit_8 ?_
      refine lv_iload_n hx hb dX10_handlersFit_11 rfl (lv_at hl 3 rfl) ?_
      refine h_ald5 (n := k) X hw ha (by omega) dX10_handlersFit_12 ?_
      refine lv_icmp_ge (tgt := 183) hx hb dX10_handlersFit_13 (by decide) (fun c_10 => ?_) (fun c_10 => ?_)
      · skip
        have c_10n : t ≥ hn := ngeT (a := t) (b := hn) hj hhn (by omega) (by omega) c_10
        have c_10m : ¬ t < hn := by omega
        refine lv_iload_n hx hb dX10_handlersFit_183 rfl (lv_at hl 1 rfl) ?_
        exact m_zret (b := p_hfits x k om hf hto hat ii h hn) X hr hlk hw hS (Nat.zero_le _) (Nat.zero_le _) (by first | (have e9 : t = hn := (by omega); rw [← e9, hg]; done) | (have e8 := p_hfits_f (hg.symm.trans c_10n) u; rw [show t + u = hn by omega] at e8; rw [e8]; rw [c_10n]; done) | (have e8 := p_hfits_f (hg.symm.trans c_10n) (u + 1); rw [show t + (u + 1) = hn by omega] at e8; rw [e8]; rw [c_10n]; done)) ⟨rfl, rfl, rfl⟩ dX10_handlersFit_184
      · skip
        have c_10n : ¬ t ≥ hn := ngeF (a := t) (b := hn) hj hhn (by omega) (by omega) c_10
        have c_10m : t < hn := by omega
        refine lv_iload_n hx hb dX10_handlersFit_16 rfl (lv_at hl 1 rfl) ?_
        refine lv_if_eq (tgt := 183) hx hb dX10_handlersFit_17 (by decide) (fun c_11 => ?_) (fun c_11 => ?_)
        · skip
          have c_11 := bI_f c_11
          refine lv_iload_n hx hb dX10_handlersFit_183 rfl (lv_at hl 1 rfl) ?_
          exact m_zret (b := p_hfits x k om hf hto hat ii h hn) X hr hlk hw hS (Nat.zero_le _) (Nat.zero_le _) (by first | (have e9 : t = hn := (by omega); rw [← e9, hg]; done) | (have e8 := p_hfits_f (hg.symm.trans c_11) u; rw [show t + u = hn by omega] at e8; rw [e8]; rw [c_11]; done) | (have e8 := p_hfits_f (hg.symm.trans c_11) (u + 1); rw [show t + (u + 1) = hn by omega] at e8; rw [e8]; rw [c_11]; done)) ⟨rfl, rfl, rfl⟩ dX10_handlersFit_184
        · skip
          have c_11 := bI_t c_11
          refine lv_iconst (v := 4) hx hb dX10_handlersFit_20 (by decide) ?_
          refine lv_bipush (v := 6) hx hb dX10_handlersFit_21 (by decide) ?_
          refine lv_iload_n hx hb dX10_handlersFit_23 rfl (lv_at hl 3 rfl) ?_
          refine lv_imul hx hb dX10_handlersFit_24 ?_
          refine lv_iload hx hb dX10_handlersFit_25 (lv_at hl 0 rfl) ?_
          refine lv_iadd hx hb dX10_handlersFit_27 ?_
          refine lv_imul hx hb dX10_handlersFit_28 ?_
          refine lv_istore (lv' := [(5, .int (4 * ((6 * a) + j))), (4, .int j), (3, .int (bI g)), (0, .ref (L (.inl 0))), (1, .int a), (2, .int b)]) hx hb dX10_handlersFit_29 hl (by decide) rfl (fun ls hl => ?_)
          refine lv_iload_n hx hb dX10_handlersFit_31 rfl (lv_at hl 5 rfl) ?_
          refine lv_i2l (v := b.toInt64) hx hb dX10_handlersFit_32 rfl ?_
          refine lv_aload_n hx hb dX10_handlersFit_33 rfl (lv_at hl 3 rfl) ?_
          refine r_get6 X hw dX10_handlersFit_34 ?_
          refine lv_iload hx hb dX10_handlersFit_37 (lv_at hl 0 rfl) ?_
          refine h_ald6 (n := 4 * ((6 * k) + t)) X hw (nmul (a := 4) (b := (6 * k) + t) rfl (nadd (a := 6 * k) (b := t) (nmul (a := 6) (b := k) rfl ha) hj)) (by omega) dX10_handlersFit_39 ?_
          refine lv_i2l (v := (x.2.1 6 (4 * ((6 * k) + t))).toInt64) hx hb dX10_handlersFit_40 rfl ?_
          refine lv_aload_n hx hb dX10_handlersFit_41 rfl (lv_at hl 3 rfl) ?_
          refine r_get6 X hw dX10_handlersFit_42 ?_
          refine lv_iload hx hb dX10_handlersFit_45 (lv_at hl 0 rfl) ?_
          refine lv_iconst (v := 1) hx hb dX10_handlersFit_47 (by decide) ?_
          refine lv_iadd hx hb dX10_handlersFit_48 ?_
          refine h_ald6 (n := (4 * ((6 * k) + t)) + 1) X hw (nadd (a := 4 * ((6 * k) + t)) (b := 1) (nmul (a := 4) (b := (6 * k) + t) rfl (nadd (a := 6 * k) (b := t) (nmul (a := 6) (b := k) rfl ha) hj)) rfl) (by omega) dX10_handlersFit_49 ?_
          refine lv_iconst (v := 1) hx hb dX10_handlersFit_50 (by decide) ?_
          refine lv_isub hx hb dX10_handlersFit_51 ?_
          refine lv_i2l (v := ((x.2.1 6 ((4 * ((6 * k) + t)) + 1)) - 1).toInt64) hx hb dX10_handlersFit_52 rfl ?_
          refine m_calli (m_runS (As := [.long b.toInt64, .long ((x.2.1 6 (4 * ((6 * k) + t))).toInt64), .long (((x.2.1 6 ((4 * ((6 * k) + t)) + 1)) - 1).toInt64)]) (rest := []) X (k_X10_isIn Γ l L (rM Γ L (sH x (h, d))) b.toInt64 ((x.2.1 6 (4 * ((6 * k) + t))).toInt64) (((x.2.1 6 ((4 * ((6 * k) + t)) + 1)) - 1).toInt64)) s_X10_isIn ml_X10_79 hw hS rfl hl.1 ⟨Nat.le_of_ble_eq_true rfl, Nat.le_of_ble_eq_true rfl⟩ (Nat.le_of_ble_eq_true rfl) ⟨Nat.le_of_ble_eq_true rfl, Nat.le_of_ble_eq_true rfl⟩ dX10_handlersFit_53) hS (fun r_13 L1 M1 H locs hp_12 hw hS => ?_)
          obtain ⟨rfl, e1, e2⟩ := hp_12
          rw [e1, e2] at hw; clear e1 e2
          refine lv_if_ne (tgt := 62) hx hb dX10_handlersFit_56 (by decide) (fun c_14 => ?_) (fun c_14 => ?_)
          · skip
            have c_14 := bI_t c_14
            have c_14 := (isInN (a := b) (b := (x.2.1 6 (4 * ((6 * k) + t)))) (c := ((x.2.1 6 ((4 * ((6 * k) + t)) + 1)) - 1)) (i := ii) (l := hf t) (h := (hto t) - 1) hbi q1 (nsub (a := hto t) (b := 1) (by omega) q2 rfl) (by omega) (by omega) (by omega)).symm.trans c_14
            refine lv_bipush (v := 40) hx hb dX10_handlersFit_62 (by decide) ?_
            refine lv_iload_n hx hb dX10_handlersFit_64 rfl (lv_at hl 4 rfl) ?_
            refine lv_imul hx hb dX10_handlersFit_65 ?_
            refine lv_aload_n hx hb dX10_handlersFit_66 rfl (lv_at hl 3 rfl) ?_
            refine r_get6 X hw dX10_handlersFit_67 ?_
            refine lv_iload hx hb dX10_handlersFit_70 (lv_at hl 0 rfl) ?_
            refine lv_iconst (v := 2) hx hb dX10_handlersFit_72 (by decide) ?_
            refine lv_iadd hx hb dX10_handlersFit_73 ?_
            refine h_ald6 (n := (4 * ((6 * k) + t)) + 2) X hw (nadd (a := 4 * ((6 * k) + t)) (b := 2) (nmul (a := 4) (b := (6 * k) + t) rfl (nadd (a := 6 * k) (b := t) (nmul (a := 6) (b := k) rfl ha) hj)) rfl) (by omega) dX10_handlersFit_74 ?_
            refine lv_iadd hx hb dX10_handlersFit_75 ?_
            refine lv_istore (lv' := [(6, .int ((40 * a) + (x.2.1 6 ((4 * ((6 * k) + t)) + 2)))), (5, .int (4 * ((6 * a) + j))), (4, .int j), (3, .int (bI g)), (0, .ref (L (.inl 0))), (1, .int a), (2, .int b)]) hx hb dX10_handlersFit_76 hl (by decide) rfl (fun ls hl => ?_)
            refine lv_aload_n hx hb dX10_handlersFit_78 rfl (lv_at hl 4 rfl) ?_
            refine r_get6 X hw dX10_handlersFit_79 ?_
            refine lv_iload hx hb dX10_handlersFit_82 (lv_at hl 1 rfl) ?_
            refine lv_iconst (v := 2) hx hb dX10_handlersFit_84 (by decide) ?_
            refine lv_iadd hx hb dX10_handlersFit_85 ?_
            refine h_ald6 (n := (4 * ((6 * k) + t)) + 2) X hw (nadd (a := 4 * ((6 * k) + t)) (b := 2) (nmul (a := 4) (b := (6 * k) + t) rfl (nadd (a := 6 * k) (b := t) (nmul (a := 6) (b := k) rfl ha) hj)) rfl) (by omega) dX10_handlersFit_86 ?_
            refine lv_aload_n hx hb dX10_handlersFit_87 rfl (lv_at hl 4 rfl) ?_
            refine r_get2 X hw dX10_handlersFit_88 ?_
            refine lv_iload_n hx hb dX10_handlersFit_91 rfl (lv_at hl 5 rfl) ?_
            refine h_ald2 (n := k) X hw ha (by omega) dX10_handlersFit_92 ?_
            refine lv_icmp_ge (tgt := 131) hx hb dX10_handlersFit_93 (by decide) (fun c_15 => ?_) (fun c_15 => ?_)
            · skip
              have c_15n : (hat t) ≥ om := ngeT (a := hat t) (b := om) q3 hom (by omega) (by omega) c_15
              have c_15m : ¬ (hat t) < om := by omega
              refine lv_iconst (v := 0) hx hb dX10_handlersFit_131 (by decide) ?_
              refine lv_istore_n (lv' := [(3, .int 0), (6, .int ((40 * a) + (x.2.1 6 ((4 * ((6 * k) + t)) + 2)))), (5, .int (4 * ((6 * a) + j))), (4, .int j), (0, .ref (L (.inl 0))), (1, .int a), (2, .int b)]) hx hb dX10_handlersFit_132 rfl hl (by decide) rfl (fun ls hl => ?_)
              refine lv_iconst (v := 0) hx hb dX10_handlersFit_133 (by decide) ?_
              refine lv_istore (lv' := [(7, .int 0), (3, .int 0), (6, .int ((40 * a) + (x.2.1 6 ((4 * ((6 * k) + t)) + 2)))), (5, .int (4 * ((6 * a) + j))), (4, .int j), (0, .ref (L (.inl 0))), (1, .int a), (2, .int b)]) hx hb dX10_handlersFit_134 hl (by decide) rfl (fun ls hl => ?_)
              exact K136 8 0 _ _ false _ _ ls rfl rfl (nadd (a := 40 * k) (b := hat t) (nmul (a := 40) (b := k) rfl ha) q3) (by clear K136 ih hl hw hS hg X hr hlk; simp_all [p_b0, p_allgo]; first | done | (intro z; omega)) (by assumption) (of_decide_eq_true (by assumption)) hw hS (lv_sub hl [0, 1, 2, 4, 5, 6, 7] rfl)
            · skip
              have c_15n : ¬ (hat t) ≥ om := ngeF (a := hat t) (b := om) q3 hom (by omega) (by omega) c_15
              have c_15m : (hat t) < om := by omega
              refine lv_aload_n hx hb dX10_handlersFit_96 rfl (lv_at hl 4 rfl) ?_
              refine r_get7 X hw dX10_handlersFit_97 ?_
              refine lv_iload hx hb dX10_handlersFit_100 (lv_at hl 0 rfl) ?_
              refine h_ald7 (n := (40 * k) + (hat t)) X hw (nadd (a := 40 * k) (b := hat t) (nmul (a := 40) (b := k) rfl ha) q3) (by omega) dX10_handlersFit_102 ?_
              refine lv_iconst (v := 1) hx hb dX10_handlersFit_103 (by decide) ?_
              refine lv_icmp_ne (tgt := 131) hx hb dX10_handlersFit_104 (by decide) (fun c_16 => ?_) (fun c_16 => ?_)
              · skip
                refine lv_iconst (v := 0) hx hb dX10_handlersFit_131 (by decide) ?_
                refine lv_istore_n (lv' := [(3, .int 0), (6, .int ((40 * a) + (x.2.1 6 ((4 * ((6 * k) + t)) + 2)))), (5, .int (4 * ((6 * a) + j))), (4, .int j), (0, .ref (L (.inl 0))), (1, .int a), (2, .int b)]) hx hb dX10_handlersFit_132 rfl hl (by decide) rfl (fun ls hl => ?_)
                refine lv_iconst (v := 0) hx hb dX10_handlersFit_133 (by decide) ?_
                refine lv_istore (lv' := [(7, .int 0), (3, .int 0), (6, .int ((40 * a) + (x.2.1 6 ((4 * ((6 * k) + t)) + 2)))), (5, .int (4 * ((6 * a) + j))), (4, .int j), (0, .ref (L (.inl 0))), (1, .int a), (2, .int b)]) hx hb dX10_handlersFit_134 hl (by decide) rfl (fun ls hl => ?_)
                exact K136 8 0 _ _ false _ _ ls rfl rfl (nadd (a := 40 * k) (b := hat t) (nmul (a := 40) (b := k) rfl ha) q3) (by clear K136 ih hl hw hS hg X hr hlk; simp_all [p_b0, p_allgo]; first | done | (intro z; omega)) (by assumption) (of_decide_eq_true (by assumption)) hw hS (lv_sub hl [0, 1, 2, 4, 5, 6, 7] rfl)
              · skip
                refine lv_iconst (v := 1) hx hb dX10_handlersFit_107 (by decide) ?_
                refine lv_aload_n hx hb dX10_handlersFit_108 rfl (lv_at hl 4 rfl) ?_
                refine r_get8 X hw dX10_handlersFit_109 ?_
                refine lv_bipush (v := 16) hx hb dX10_handlersFit_112 (by decide) ?_
                refine lv_iload hx hb dX10_handlersFit_114 (lv_at hl 0 rfl) ?_
                refine lv_imul hx hb dX10_handlersFit_116 ?_
                refine lv_bipush (v := 8) hx hb dX10_handlersFit_117 (by decide) ?_
                refine lv_iadd hx hb dX10_handlersFit_119 ?_
                refine h_ald8 (n := (16 * ((40 * k) + (hat t))) + 8) X hw (nadd (a := 16 * ((40 * k) + (hat t))) (b := 8) (nmul (a := 16) (b := (40 * k) + (hat t)) rfl (nadd (a := 40 * k) (b := hat t) (nmul (a := 40) (b := k) rfl ha) q3)) rfl) (by omega) dX10_handlersFit_120 ?_
                refine m_calli (m_runS (As := [.int 1, .int (x.2.1 8 ((16 * ((40 * k) + (hat t))) + 8))]) (rest := []) X (k_X10_goes Γ l L (rM Γ L (sH x (h, d))) 1 (x.2.1 8 ((16 * ((40 * k) + (hat t))) + 8))) s_X10_goes ml_X10_125 hw hS rfl hl.1 ⟨Nat.le_of_ble_eq_true rfl, Nat.le_of_ble_eq_true rfl⟩ (Nat.le_of_ble_eq_true rfl) ⟨Nat.le_of_ble_eq_true rfl, Nat.le_of_ble_eq_true rfl⟩ dX10_handlersFit_121) hS (fun r_18 L1 M1 H locs hp_17 hw hS => ?_)
                obtain ⟨rfl, e1, e2⟩ := hp_17
                rw [e1, e2] at hw; clear e1 e2
                refine lv_if_eq (tgt := 131) hx hb dX10_handlersFit_124 (by decide) (fun c_19 => ?_) (fun c_19 => ?_)
                · skip
                  have c_19 := bI_f c_19
                  refine lv_iconst (v := 0) hx hb dX10_handlersFit_131 (by decide) ?_
                  refine lv_istore_n (lv' := [(3, .int 0), (6, .int ((40 * a) + (x.2.1 6 ((4 * ((6 * k) + t)) + 2)))), (5, .int (4 * ((6 * a) + j))), (4, .int j), (0, .ref (L (.inl 0))), (1, .int a), (2, .int b)]) hx hb dX10_handlersFit_132 rfl hl (by decide) rfl (fun ls hl => ?_)
                  refine lv_iconst (v := 0) hx hb dX10_handlersFit_133 (by decide) ?_
                  refine lv_istore (lv' := [(7, .int 0), (3, .int 0), (6, .int ((40 * a) + (x.2.1 6 ((4 * ((6 * k) + t)) + 2)))), (5, .int (4 * ((6 * a) + j))), (4, .int j), (0, .ref (L (.inl 0))), (1, .int a), (2, .int b)]) hx hb dX10_handlersFit_134 hl (by decide) rfl (fun ls hl => ?_)
                  exact K136 8 0 _ _ false _ _ ls rfl rfl (nadd (a := 40 * k) (b := hat t) (nmul (a := 40) (b := k) rfl ha) q3) (by clear K136 ih hl hw hS hg X hr hlk; simp_all [p_b0, p_allgo]; first | done | (intro z; omega)) (by assumption) (of_decide_eq_true (by assumption)) hw hS (lv_sub hl [0, 1, 2, 4, 5, 6, 7] rfl)
                · skip
                  have c_19 := bI_t c_19
                  refine lv_iconst (v := 1) hx hb dX10_handlersFit_127 (by decide) ?_
                  refine lv_goto (tgt := 132) hx hb dX10_handlersFit_128 (by decide) ?_
                  refine lv_istore_n (lv' := [(3, .int 1), (6, .int ((40 * a) + (x.2.1 6 ((4 * ((6 * k) + t)) + 2)))), (5, .int (4 * ((6 * a) + j))), (4, .int j), (0, .ref (L (.inl 0))), (1, .int a), (2, .int b)]) hx hb dX10_handlersFit_132 rfl hl (by decide) rfl (fun ls hl => ?_)
                  refine lv_iconst (v := 0) hx hb dX10_handlersFit_133 (by decide) ?_
                  refine lv_istore (lv' := [(7, .int 0), (3, .int 1), (6, .int ((40 * a) + (x.2.1 6 ((4 * ((6 * k) + t)) + 2)))), (5, .int (4 * ((6 * a) + j))), (4, .int j), (0, .ref (L (.inl 0))), (1, .int a), (2, .int b)]) hx hb dX10_handlersFit_134 hl (by decide) rfl (fun ls hl => ?_)
                  exact K136 8 0 _ _ true _ _ ls rfl rfl (nadd (a := 40 * k) (b := hat t) (nmul (a := 40) (b := k) rfl ha) q3) (by clear K136 ih hl hw hS hg X hr hlk; simp_all [p_b0, p_allgo]; first | done | (intro z; omega)) (by assumption) (of_decide_eq_true (by assumption)) hw hS (lv_sub hl [0, 1, 2, 4, 5, 6, 7] rfl)
          · skip
            have c_14 := bI_f c_14
            have c_14 := (isInN (a := b) (b := (x.2.1 6 (4 * ((6 * k) + t)))) (c := ((x.2.1 6 ((4 * ((6 * k) + t)) + 1)) - 1)) (i := ii) (l := hf t) (h := (hto t) - 1) hbi q1 (nsub (a := hto t) (b := 1) (by omega) q2 rfl) (by omega) (by omega) (by omega)).symm.trans c_14
            refine lv_goto (tgt := 177) hx hb dX10_handlersFit_59 (by decide) ?_
            refine lv_iinc (v := j + 1) (lv' := [(4, .int (j + 1)), (5, .int (4 * ((6 * a) + j))), (3, .int (bI g)), (0, .ref (L (.inl 0))), (1, .int a), (2, .int b)]) hx hb dX10_handlersFit_177 hl (k := 1) rfl rfl (by decide) rfl (fun ls hl => ?_)
            refine lv_goto (tgt := 5) hx hb dX10_handlersFit_180 (by decide) ?_
            exact ih (t + 1) _ _ H locs ls (by omega) (nadd (a := t) (b := 1) hj rfl) (by show _ = (p_hfits x k om hf hto hat ii h t && p_hok x k om hf hto hat ii h t); rw [← hg]; unfold p_hok; rw [show decide (hf t ≤ ii ∧ ii ≤ hto t - 1) = false by assumption]; simp) hw hS (lv_sub hl [0, 2, 3, 4, 5] rfl)
  refine lv_iconst (v := 1) hx hb dX10_handlersFit_0 (by decide) ?_
  refine lv_istore_n (lv' := [(3, .int 1), (0, .ref (L (.inl 0))), (1, .int a), (2, .int b)]) hx hb dX10_handlersFit_1 rfl hl (by decide) rfl (fun ls hl => ?_)
  refine lv_iconst (v := 0) hx hb dX10_handlersFit_2 (by decide) ?_
  refine lv_istore (lv' := [(4, .int 0), (3, .int 1), (0, .ref (L (.inl 0))), (1, .int a), (2, .int b)]) hx hb dX10_handlersFit_3 hl (by decide) rfl (fun ls hl => ?_)
  exact K5 hn 0 _ true _ _ ls (by omega) rfl rfl hw hS hl
