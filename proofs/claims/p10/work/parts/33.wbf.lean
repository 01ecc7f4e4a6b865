theorem v_X10_wrongByFrames : mVm yX10_wrongByFrames cX10_wrongByFrames 6 (some .int) 1 := ⟨cd_X10_wrongByFrames, im_X10_wrongByFrames, se_X10_wrongByFrames, ini_X10, by decide, by decide, by decide +kernel⟩
set_option maxHeartbeats 4000000 in
set_option maxRecDepth 100000 in
theorem k_X10_wrongByFrames (Γ : mG) (l : Launch) (L : mI → Nat) (x : RS) (h : Nat → Int32) (d : Nat) (a : Int32) (k om hn : Nat) (hf hto hat hwh pm : Nat → Nat) (ha : a = nI k) (hk : k < 8) (hR : RC x k om hn hf hto hat hwh pm) : mMet Γ l yX10_wrongByFrames cX10_wrongByFrames 6 (some .int) { frames := 7, cells := 0, slots := 0, locals := 161 } [.ref (L (.inl 0)), .int a] L (rM Γ L (sH x (h, d))) (mQi Γ (fun r L1 M1 => ∃ q, r = (r_wbf k om hn hf hto hat pm om 0 (r_forget x) (p_begin (pm k) h, 0) true).1 ∧ L1 = L ∧ M1 = rM Γ L (sH (r_wbf k om hn hf hto hat pm om 0 (r_forget x) (p_begin (pm k) h, 0) true).2 q))) := by
  refine m_start (by decide) (Nat.le_of_ble_eq_true rfl) ?_
  intro p e s m args below meth c A ls X hr hlk hnm hw hS hl
  have hx := X.1.1
  have hb := X.1.2.1
  have ho40 := hR.2.1
  have hl : lv_has ls 6 [(0, .ref (L (.inl 0))), (1, .int a)] := hl
  have K9 : ∀ (u i : Nat) (y : RS) (h2 : Nat → Int32) (d2 : Nat) (cb : Bool) (j : Int32) (H : Heap) (locs : List Loc) (ls : Array Slot), i + u = om → j = nI i → d2 ≤ 8 → RC y k om hn hf hto hat hwh pm → r_wbf k om hn hf hto hat pm om 0 (r_forget x) (p_begin (pm k) h, 0) true = r_wbf k om hn hf hto hat pm u i y (h2, d2) cb → mW Γ.1 vwCl A L (rM Γ L (sH y (h2, d2))) H → va_S A s.heap H locs → lv_has ls 6 [(3, .int j), (2, .int (bI cb)), (0, .ref (L (.inl 0))), (1, .int a)] → W p l e { frames := 7, cells := 0, slots := 0, locals := 161 } s m args below meth c H locs 0 0 (MQ below (mQi Γ (fun r L1 M1 => ∃ q, r = (r_wbf k om hn hf hto hat pm om 0 (r_forget x) (p_begin (pm k) h, 0) true).1 ∧ L1 = L ∧ M1 = rM Γ L (sH (r_wbf k om hn hf hto hat pm om 0 (r_forget x) (p_begin (pm k) h, 0) true).2 q)) A) args s 0 0 A) (F0 m 9 ls []) := by
    clear hR hw hS hl
    intro u
    induction u with
    | zero =>
      intro i y h2 d2 cb j H locs ls hu hj hd2 hR he hw hS hl
      refine lv_iload_n hx hb dX10_wrongByFrames_9 rfl (lv_at hl 0 rfl) ?_
      refine lv_aload_n hx hb dX10_wrongByFrames_10 rfl (lv_at hl 2 rfl) ?_
      refine r_get2 X hw dX10_wrongByFrames_11 ?_
      refine lv_iload_n hx hb dX10_wrongByFrames_14 rfl (lv_at hl 3 rfl) ?_
      refine h_ald2 (n := k) X hw ha (by omega) dX10_wrongByFrames_15 ?_
      refine lv_icmp_ge (tgt := 189) hx hb dX10_wrongByFrames_16 (by decide) (fun c_1 => ?_) (fun c_1 => ?_)
      · skip
        have c_1n : i ≥ om := ngeT (a := i) (b := om) hj hR.1 (by omega) (by omega) c_1
        have c_1m : ¬ i < om := by omega
        refine lv_iload_n hx hb dX10_wrongByFrames_189 rfl (lv_at hl 1 rfl) ?_
        refine lv_if_eq (tgt := 202) hx hb dX10_wrongByFrames_190 (by decide) (fun c_2 => ?_) (fun c_2 => ?_)
        · skip
          have c_2 := bI_f c_2
          refine lv_iconst (v := (-1)) hx hb dX10_wrongByFrames_202 (by decide) ?_
          exact m_iret X hr hlk hw hS (Nat.zero_le _) (Nat.zero_le _) ⟨(h2, d2), by rw [he]; have hR1 := hR.1; simp_all [r_wbf], rfl, by rw [he]; have hR1 := hR.1; simp_all [r_wbf]⟩ dX10_wrongByFrames_203
        · skip
          have c_2 := bI_t c_2
          refine lv_aload_n hx hb dX10_wrongByFrames_193 rfl (lv_at hl 2 rfl) ?_
          refine r_get2 X hw dX10_wrongByFrames_194 ?_
          refine lv_iload_n hx hb dX10_wrongByFrames_197 rfl (lv_at hl 3 rfl) ?_
          refine h_ald2 (n := k) X hw ha (by omega) dX10_wrongByFrames_198 ?_
          refine lv_goto (tgt := 203) hx hb dX10_wrongByFrames_199 (by decide) ?_
          exact m_iret X hr hlk hw hS (Nat.zero_le _) (Nat.zero_le _) ⟨(h2, d2), by rw [he]; have hR1 := hR.1; simp_all [r_wbf], rfl, by rw [he]; have hR1 := hR.1; simp_all [r_wbf]⟩ dX10_wrongByFrames_203
      · skip
        have c_1n : ¬ i ≥ om := ngeF (a := i) (b := om) hj hR.1 (by omega) (by omega) c_1
        have c_1m : i < om := by omega
        exact absurd hu (by omega)
    | succ u ih =>
      intro i y h2 d2 cb j H locs ls hu hj hd2 hR he hw hS hl
      have K108 : ∀ (h3 : Nat → Int32) (d3 : Nat) (w : Int32) (H : Heap) (locs : List Loc) (ls : Array Slot), d3 ≤ 8 → w = nI (40 * k + i) → r_wbf k om hn hf hto hat pm om 0 (r_forget x) (p_begin (pm k) h, 0) true = r_tail k om hn hf hto hat pm (r_wbf k om hn hf hto hat pm u (i + 1)) i y (h3, d3) → mW Γ.1 vwCl A L (rM Γ L (sH y (h3, d3))) H → va_S A s.heap H locs → lv_has ls 6 [(4, .int w), (3, .int j), (2, .int (bI cb)), (0, .ref (L (.inl 0))), (1, .int a)] → W p l e { frames := 7, cells := 0, slots := 0, locals := 161 } s m args below meth c H locs 0 0 (MQ below (mQi Γ (fun r L1 M1 => ∃ q, r = (r_wbf k om hn hf hto hat pm om 0 (r_forget x) (p_begin (pm k) h, 0) true).1 ∧ L1 = L ∧ M1 = rM Γ L (sH (r_wbf k om hn hf hto hat pm om 0 (r_forget x) (p_begin (pm k) h, 0) true).2 q)) A) args s 0 0 A) (F0 m 108 ls []) := by
        clear he hw hS hl
        intro h3 d3 w H locs ls hd3 hwf he hw hS hl
        refine lv_aload_n hx hb dX10_wrongByFrames_108 rfl (lv_at hl 3 rfl) ?_
        refine lv_iload_n hx hb dX10_wrongByFrames_109 rfl (lv_at hl 1 rfl) ?_
        refine m_callv (m_runV (i := .inl 0) (ci := 8) (As := [.int j]) (rest := []) X (k_X10_sees Γ l L y h3 d3 j i hj (by omega)) v_X10_sees ml_X10_194 hw hS rfl rfl rfl rfl hl.1 ⟨Nat.le_of_ble_eq_true rfl, Nat.le_of_ble_eq_true rfl⟩ (Nat.le_of_ble_eq_true rfl) ⟨Nat.le_of_ble_eq_true rfl, Nat.le_of_ble_eq_true rfl⟩ dX10_wrongByFrames_110) hS (fun L1 M1 H locs hp_3 hw hS => ?_)
        obtain ⟨e1, e2⟩ := hp_3
        rw [e1, e2] at hw; clear e1 e2
        refine lv_aload_n hx hb dX10_wrongByFrames_113 rfl (lv_at hl 3 rfl) ?_
        refine lv_iload_n hx hb dX10_wrongByFrames_114 rfl (lv_at hl 4 rfl) ?_
        refine lv_iload_n hx hb dX10_wrongByFrames_115 rfl (lv_at hl 1 rfl) ?_
        refine m_calli (m_runV (i := .inl 0) (ci := 8) (As := [.int a, .int j]) (rest := []) X (k_X10_handlersFit Γ l L (r_sees y i (h3, d3)) h3 d3 a j k i om hn hf hto hat hwh ha hk hj (by omega) hR.1 hR.2.1 hR.2.2.1 hR.2.2.2.1 hR.2.2.2.2.1) v_X10_handlersFit ml_X10_197 hw hS rfl rfl rfl rfl hl.1 ⟨Nat.le_of_ble_eq_true rfl, Nat.le_of_ble_eq_true rfl⟩ (Nat.le_of_ble_eq_true rfl) ⟨Nat.le_of_ble_eq_true rfl, Nat.le_of_ble_eq_true rfl⟩ dX10_wrongByFrames_116) hS (fun r_6 L1 M1 H locs hp_5 hw hS => ?_)
        obtain ⟨rfl, e1, e2⟩ := hp_5
        rw [e1, e2] at hw; clear e1 e2
        refine lv_if_eq (tgt := 131) hx hb dX10_wrongByFrames_119 (by decide) (fun c_7 => ?_) (fun c_7 => ?_)
        · skip
          have c_7 := bI_f c_7
          refine lv_iload_n hx hb dX10_wrongByFrames_131 rfl (lv_at hl 1 rfl) ?_
          exact m_iret X hr hlk hw hS (Nat.zero_le _) (Nat.zero_le _) ⟨(h3, d3), by rw [he]; clear ih hl hw hS X hr hlk hx hb hnm; simp_all [r_tail, r_code, r_lead], rfl, by rw [he]; clear ih hl hw hS X hr hlk hx hb hnm; simp_all [r_tail, r_code, r_lead]⟩ dX10_wrongByFrames_132
        · skip
          have c_7 := bI_t c_7
          refine lv_aload_n hx hb dX10_wrongByFrames_122 rfl (lv_at hl 3 rfl) ?_
          refine lv_iload_n hx hb dX10_wrongByFrames_123 rfl (lv_at hl 4 rfl) ?_
          refine lv_iload_n hx hb dX10_wrongByFrames_124 rfl (lv_at hl 1 rfl) ?_
          refine m_calli (m_runV (i := .inl 0) (ci := 8) (As := [.int a, .int j]) (rest := []) X (k_X10_does Γ l L (r_sees y i (h3, d3)) h3 d3 a j (by omega) k om i pm _ _ ha hk hj (by omega) rfl rfl hR.1 hR.2.1 hR.2.2.2.2.2.1) v_X10_does ml_X10_200 hw hS rfl rfl rfl rfl hl.1 ⟨Nat.le_of_ble_eq_true rfl, Nat.le_of_ble_eq_true rfl⟩ (Nat.le_of_ble_eq_true rfl) ⟨Nat.le_of_ble_eq_true rfl, Nat.le_of_ble_eq_true rfl⟩ dX10_wrongByFrames_125) hS (fun r_9 L1 M1 H locs hp_8 hw hS => ?_)
          obtain ⟨q_9, e1, e2, e3⟩ := hp_8
          rw [e1, e2] at hw; clear e1 e2
          rcases ho_9 : p_op (fun j => (r_sees y i (h3, d3)).2.1 3 (40 * k + j)) (fun j => (r_sees y i (h3, d3)).2.2 4 (40 * k + j)) k om pm j ((r_sees y i (h3, d3)).2.1 3 (40 * k + i)) ((r_sees y i (h3, d3)).2.2 4 (40 * k + i)) (h3, d3) with _ | ⟨h_9, d_9⟩
          · rw [ho_9] at e3; subst e3
            refine lv_if_ne (tgt := 133) hx hb dX10_wrongByFrames_128 (by decide) (fun h => absurd rfl h) (fun _ => ?_)
            refine lv_iload_n hx hb dX10_wrongByFrames_131 rfl (lv_at hl 1 rfl) ?_
            exact m_iret X hr hlk hw hS (Nat.zero_le _) (Nat.zero_le _) ⟨(q_9.1, q_9.2), by rw [he]; clear ih hl hw hS X hr hlk hx hb hnm; simp_all [r_tail, r_code, r_lead], rfl, by rw [he]; clear ih hl hw hS X hr hlk hx hb hnm; simp_all [r_tail, r_code, r_lead]⟩ dX10_wrongByFrames_132
          · rw [ho_9] at e3; obtain ⟨e3, e4⟩ := e3; subst e3; subst e4
            have hd_9 := p_op_le ho_9 (by omega)
            refine lv_if_ne (tgt := 133) hx hb dX10_wrongByFrames_128 (by decide) (fun _ => ?_) (fun h => absurd h (by decide))
            refine lv_aload_n hx hb dX10_wrongByFrames_133 rfl (lv_at hl 3 rfl) ?_
            refine r_get3 X hw dX10_wrongByFrames_134 ?_
            refine lv_iload hx hb dX10_wrongByFrames_137 (lv_at hl 0 rfl) ?_
            refine h_ald3 (n := 40 * k + i) X hw hwf (by omega) dX10_wrongByFrames_139 ?_
            refine m_calli (m_runS (As := [.int ((r_sees y i (h3, d3)).2.1 3 (40 * k + i))]) (rest := []) X (k_X10_leads Γ l L (rM Γ L (sH (r_sees y i (h3, d3)) (h_9, d_9))) ((r_sees y i (h3, d3)).2.1 3 (40 * k + i)) ) s_X10_leads ml_X10_203 hw hS rfl hl.1 ⟨Nat.le_of_ble_eq_true rfl, Nat.le_of_ble_eq_true rfl⟩ (Nat.le_of_ble_eq_true rfl) ⟨Nat.le_of_ble_eq_true rfl, Nat.le_of_ble_eq_true rfl⟩ dX10_wrongByFrames_140) hS (fun r_13 L1 M1 H locs hp_12 hw hS => ?_)
            obtain ⟨rfl, e1, e2⟩ := hp_12
            rw [e1, e2] at hw; clear e1 e2
            refine lv_if_eq (tgt := 164) hx hb dX10_wrongByFrames_143 (by decide) (fun c_14 => ?_) (fun c_14 => ?_)
            · skip
              have c_14 := bI_f c_14
              refine lv_aload_n hx hb dX10_wrongByFrames_164 rfl (lv_at hl 3 rfl) ?_
              refine r_get3 X hw dX10_wrongByFrames_165 ?_
              refine lv_iload hx hb dX10_wrongByFrames_168 (lv_at hl 0 rfl) ?_
              refine h_ald3 (n := 40 * k + i) X hw hwf (by omega) dX10_wrongByFrames_170 ?_
              refine m_calli (m_runS (As := [.int ((r_sees y i (h3, d3)).2.1 3 (40 * k + i))]) (rest := []) X (k_X10_isLast Γ l L (rM Γ L (sH (r_sees y i (h3, d3)) (h_9, d_9))) ((r_sees y i (h3, d3)).2.1 3 (40 * k + i)) ) s_X10_isLast ml_X10_206 hw hS rfl hl.1 ⟨Nat.le_of_ble_eq_true rfl, Nat.le_of_ble_eq_true rfl⟩ (Nat.le_of_ble_eq_true rfl) ⟨Nat.le_of_ble_eq_true rfl, Nat.le_of_ble_eq_true rfl⟩ dX10_wrongByFrames_171) hS (fun r_16 L1 M1 H locs hp_15 hw hS => ?_)
              obtain ⟨rfl, e1, e2⟩ := hp_15
              rw [e1, e2] at hw; clear e1 e2
              refine lv_if_ne (tgt := 181) hx hb dX10_wrongByFrames_174 (by decide) (fun c_17 => ?_) (fun c_17 => ?_)
              · skip
                have c_17 := bI_t c_17
                refine lv_iconst (v := 0) hx hb dX10_wrongByFrames_181 (by decide) ?_
                refine lv_istore_n (lv' := [(2, .int 0), (4, .int w), (3, .int j), (0, .ref (L (.inl 0))), (1, .int a)]) hx hb dX10_wrongByFrames_182 rfl hl (by decide) rfl (fun ls hl => ?_)
                refine lv_iinc (v := j + 1) (lv' := [(3, .int (j + 1)), (2, .int 0), (4, .int w), (0, .ref (L (.inl 0))), (1, .int a)]) hx hb dX10_wrongByFrames_183 hl (k := 2) rfl rfl (by decide) rfl (fun ls hl => ?_)
                refine lv_goto (tgt := 9) hx hb dX10_wrongByFrames_186 (by decide) ?_
                exact ih (i + 1) _ _ _ false _ H locs ls (by omega) (nadd (a := i) (b := 1) hj rfl) (by omega) (RC_sees hR) (by rw [he]; clear ih hl hw hS X hr hlk hx hb hnm he; simp_all [r_tail, r_code, r_lead]) hw hS (lv_sub hl [0, 1, 3, 4] rfl)
              · skip
                have c_17 := bI_f c_17
                refine lv_iconst (v := 1) hx hb dX10_wrongByFrames_177 (by decide) ?_
                refine lv_goto (tgt := 182) hx hb dX10_wrongByFrames_178 (by decide) ?_
                refine lv_istore_n (lv' := [(2, .int 1), (4, .int w), (3, .int j), (0, .ref (L (.inl 0))), (1, .int a)]) hx hb dX10_wrongByFrames_182 rfl hl (by decide) rfl (fun ls hl => ?_)
                refine lv_iinc (v := j + 1) (lv' := [(3, .int (j + 1)), (2, .int 1), (4, .int w), (0, .ref (L (.inl 0))), (1, .int a)]) hx hb dX10_wrongByFrames_183 hl (k := 2) rfl rfl (by decide) rfl (fun ls hl => ?_)
                refine lv_goto (tgt := 9) hx hb dX10_wrongByFrames_186 (by decide) ?_
                exact ih (i + 1) _ _ _ true _ H locs ls (by omega) (nadd (a := i) (b := 1) hj rfl) (by omega) (RC_sees hR) (by rw [he]; clear ih hl hw hS X hr hlk hx hb hnm he; simp_all [r_tail, r_code, r_lead]) hw hS (lv_sub hl [0, 1, 3, 4] rfl)
            · skip
              have c_14 := bI_t c_14
              obtain ⟨tt, htt, hvt⟩ := p_op_lead (by omega) c_14 ho_9
              have hixt : p_ix (lN tt) = tt := by unfold p_ix; rw [lN_i]; exact nI_clamp (by omega)
              refine lv_aload_n hx hb dX10_wrongByFrames_146 rfl (lv_at hl 3 rfl) ?_
              refine lv_iload_n hx hb dX10_wrongByFrames_147 rfl (lv_at hl 4 rfl) ?_
              refine lv_aload_n hx hb dX10_wrongByFrames_148 rfl (lv_at hl 3 rfl) ?_
              refine r_get4 X hw dX10_wrongByFrames_149 ?_
              refine lv_iload hx hb dX10_wrongByFrames_152 (lv_at hl 0 rfl) ?_
              refine h_ald4 (n := 40 * k + i) X hw hwf (by omega) dX10_wrongByFrames_154 ?_
              refine lv_l2i (v := ((r_sees y i (h3, d3)).2.2 4 (40 * k + i)).toInt32) hx hb dX10_wrongByFrames_155 rfl ?_
              refine m_calli (m_runV (i := .inl 0) (ci := 8) (As := [.int a, .int (((r_sees y i (h3, d3)).2.2 4 (40 * k + i)).toInt32)]) (rest := []) X (k_X10_goesToFrame Γ l L (r_sees y i (h3, d3)) h_9 d_9 a (((r_sees y i (h3, d3)).2.2 4 (40 * k + i)).toInt32) k tt (by omega) ha (by omega) ((congrArg Int64.toInt32 hvt).trans (lN_i tt)) (by omega)) v_X10_goesToFrame ml_X10_191 hw hS rfl rfl rfl rfl hl.1 ⟨Nat.le_of_ble_eq_true rfl, Nat.le_of_ble_eq_true rfl⟩ (Nat.le_of_ble_eq_true rfl) ⟨Nat.le_of_ble_eq_true rfl, Nat.le_of_ble_eq_true rfl⟩ dX10_wrongByFrames_156) hS (fun r_19 L1 M1 H locs hp_18 hw hS => ?_)
              obtain ⟨rfl, e1, e2⟩ := hp_18
              rw [e1, e2] at hw; clear e1 e2
              refine lv_if_ne (tgt := 164) hx hb dX10_wrongByFrames_159 (by decide) (fun c_20 => ?_) (fun c_20 => ?_)
              · skip
                have c_20 := bI_t c_20
                refine lv_aload_n hx hb dX10_wrongByFrames_164 rfl (lv_at hl 3 rfl) ?_
                refine r_get3 X hw dX10_wrongByFrames_165 ?_
                refine lv_iload hx hb dX10_wrongByFrames_168 (lv_at hl 0 rfl) ?_
                refine h_ald3 (n := 40 * k + i) X hw hwf (by omega) dX10_wrongByFrames_170 ?_
                refine m_calli (m_runS (As := [.int ((r_sees y i (h3, d3)).2.1 3 (40 * k + i))]) (rest := []) X (k_X10_isLast Γ l L (rM Γ L (sH (r_sees y i (h3, d3)) (h_9, d_9))) ((r_sees y i (h3, d3)).2.1 3 (40 * k + i)) ) s_X10_isLast ml_X10_206 hw hS rfl hl.1 ⟨Nat.le_of_ble_eq_true rfl, Nat.le_of_ble_eq_true rfl⟩ (Nat.le_of_ble_eq_true rfl) ⟨Nat.le_of_ble_eq_true rfl, Nat.le_of_ble_eq_true rfl⟩ dX10_wrongByFrames_171) hS (fun r_22 L1 M1 H locs hp_21 hw hS => ?_)
                obtain ⟨rfl, e1, e2⟩ := hp_21
                rw [e1, e2] at hw; clear e1 e2
                refine lv_if_ne (tgt := 181) hx hb dX10_wrongByFrames_174 (by decide) (fun c_23 => ?_) (fun c_23 => ?_)
                · skip
                  have c_23 := bI_t c_23
                  refine lv_iconst (v := 0) hx hb dX10_wrongByFrames_181 (by decide) ?_
                  refine lv_istore_n (lv' := [(2, .int 0), (4, .int w), (3, .int j), (0, .ref (L (.inl 0))), (1, .int a)]) hx hb dX10_wrongByFrames_182 rfl hl (by decide) rfl (fun ls hl => ?_)
                  refine lv_iinc (v := j + 1) (lv' := [(3, .int (j + 1)), (2, .int 0), (4, .int w), (0, .ref (L (.inl 0))), (1, .int a)]) hx hb dX10_wrongByFrames_183 hl (k := 2) rfl rfl (by decide) rfl (fun ls hl => ?_)
                  refine lv_goto (tgt := 9) hx hb dX10_wrongByFrames_186 (by decide) ?_
                  exact ih (i + 1) _ _ _ false _ H locs ls (by omega) (nadd (a := i) (b := 1) hj rfl) (by omega) (RC_sees hR) (by rw [he]; clear ih hl hw hS X hr hlk hx hb hnm he; simp_all [r_tail, r_code, r_lead]) hw hS (lv_sub hl [0, 1, 3, 4] rfl)
                · skip
                  have c_23 := bI_f c_23
                  refine lv_iconst (v := 1) hx hb dX10_wrongByFrames_177 (by decide) ?_
                  refine lv_goto (tgt := 182) hx hb dX10_wrongByFrames_178 (by decide) ?_
                  refine lv_istore_n (lv' := [(2, .int 1), (4, .int w), (3, .int j), (0, .ref (L (.inl 0))), (1, .int a)]) hx hb dX10_wrongByFrames_182 rfl hl (by decide) rfl (fun ls hl => ?_)
                  refine lv_iinc (v := j + 1) (lv' := [(3, .int (j + 1)), (2, .int 1), (4, .int w), (0, .ref (L (.inl 0))), (1, .int a)]) hx hb dX10_wrongByFrames_183 hl (k := 2) rfl rfl (by decide) rfl (fun ls hl => ?_)
                  refine lv_goto (tgt := 9) hx hb dX10_wrongByFrames_186 (by decide) ?_
                  exact ih (i + 1) _ _ _ true _ H locs ls (by omega) (nadd (a := i) (b := 1) hj rfl) (by omega) (RC_sees hR) (by rw [he]; clear ih hl hw hS X hr hlk hx hb hnm he; simp_all [r_tail, r_code, r_lead]) hw hS (lv_sub hl [0, 1, 3, 4] rfl)
              · skip
                have c_20 := bI_f c_20
                refine lv_iload_n hx hb dX10_wrongByFrames_162 rfl (lv_at hl 1 rfl) ?_
                exact m_iret X hr hlk hw hS (Nat.zero_le _) (Nat.zero_le _) ⟨(h_9, d_9), by rw [he]; clear ih hl hw hS X hr hlk hx hb hnm; simp_all [r_tail, r_code, r_lead], rfl, by rw [he]; clear ih hl hw hS X hr hlk hx hb hnm; simp_all [r_tail, r_code, r_lead]⟩ dX10_wrongByFrames_163
      have K66 : ∀ (u2 t2 dd : Nat) (j2 w : Int32) (H : Heap) (locs : List Loc) (ls : Array Slot), t2 + u2 = 16 → j2 = nI t2 → dd ≤ 8 → w = nI (40 * k + i) → r_wbf k om hn hf hto hat pm om 0 (r_forget x) (p_begin (pm k) h, 0) true = r_tail k om hn hf hto hat pm (r_wbf k om hn hf hto hat pm u (i + 1)) i y (p_fr y (40 * k + i) h2, dd) → mW Γ.1 vwCl A L (rM Γ L (sH y (cpA h2 0 (fun j => y.2.1 8 (16 * (40 * k + i) + j)) t2, dd))) H → va_S A s.heap H locs → lv_has ls 6 [(5, .int j2), (4, .int w), (3, .int j), (2, .int (bI cb)), (0, .ref (L (.inl 0))), (1, .int a)] → W p l e { frames := 7, cells := 0, slots := 0, locals := 161 } s m args below meth c H locs 0 0 (MQ below (mQi Γ (fun r L1 M1 => ∃ q, r = (r_wbf k om hn hf hto hat pm om 0 (r_forget x) (p_begin (pm k) h, 0) true).1 ∧ L1 = L ∧ M1 = rM Γ L (sH (r_wbf k om hn hf hto hat pm om 0 (r_forget x) (p_begin (pm k) h, 0) true).2 q)) A) args s 0 0 A) (F0 m 66 ls []) := by
        clear he hw hS hl
        intro u2
        induction u2 with
        | zero =>
          intro t2 dd j2 w H locs ls ht2 hj2 hdd8 hwf he hw hS hl
          refine lv_iload hx hb dX10_wrongByFrames_66 (lv_at hl 0 rfl) ?_
          refine lv_bipush (v := 16) hx hb dX10_wrongByFrames_68 (by decide) ?_
          refine lv_icmp_ge (tgt := 99) hx hb dX10_wrongByFrames_70 (by decide) (fun c_24 => ?_) (fun c_24 => ?_)
          · skip
            have c_24n : t2 ≥ 16 := ngeT (a := t2) (b := 16) hj2 rfl (by omega) (by omega) c_24
            have c_24m : ¬ t2 < 16 := by omega
            refine lv_goto (tgt := 108) hx hb dX10_wrongByFrames_99 (by decide) ?_
            exact K108 _ dd w H locs ls hdd8 hwf (by first | exact absurd ht2 (by omega) | (have e9 : t2 = 16 := (by omega); subst e9; exact he)) hw hS (lv_sub hl [1, 2, 3, 4, 5] rfl)
          · skip
            have c_24n : ¬ t2 ≥ 16 := ngeF (a := t2) (b := 16) hj2 rfl (by omega) (by omega) c_24
            have c_24m : t2 < 16 := by omega
            refine lv_aload_n hx hb dX10_wrongByFrames_73 rfl (lv_at hl 4 rfl) ?_
            refine r_get14 X hw dX10_wrongByFrames_74 ?_
            refine lv_iload hx hb dX10_wrongByFrames_77 (lv_at hl 0 rfl) ?_
            refine lv_aload_n hx hb dX10_wrongByFrames_79 rfl (lv_at hl 4 rfl) ?_
            refine r_get8 X hw dX10_wrongByFrames_80 ?_
            refine lv_bipush (v := 16) hx hb dX10_wrongByFrames_83 (by decide) ?_
            refine lv_iload hx hb dX10_wrongByFrames_85 (lv_at hl 1 rfl) ?_
            refine lv_imul hx hb dX10_wrongByFrames_87 ?_
            refine lv_iload hx hb dX10_wrongByFrames_88 (lv_at hl 0 rfl) ?_
            refine lv_iadd hx hb dX10_wrongByFrames_90 ?_
            refine h_ald8 (n := (16 * (40 * k + i)) + t2) X hw (nadd (a := 16 * (40 * k + i)) (b := t2) (nmul (a := 16) (b := 40 * k + i) rfl hwf) hj2) (by omega) dX10_wrongByFrames_91 ?_
            refine h_ast14 (n := t2) X hw hS hj2 (by omega) dX10_wrongByFrames_92 (fun H locs hw hS => ?_)
            refine lv_iinc (v := j2 + 1) (lv' := [(5, .int (j2 + 1)), (4, .int w), (3, .int j), (2, .int (bI cb)), (0, .ref (L (.inl 0))), (1, .int a)]) hx hb dX10_wrongByFrames_93 hl (k := 0) rfl rfl (by decide) rfl (fun ls hl => ?_)
            refine lv_goto (tgt := 66) hx hb dX10_wrongByFrames_96 (by decide) ?_
            exact absurd ht2 (by omega)
        | succ u2 ih2 =>
          intro t2 dd j2 w H locs ls ht2 hj2 hdd8 hwf he hw hS hl
          refine lv_iload hx hb dX10_wrongByFrames_66 (lv_at hl 0 rfl) ?_
          refine lv_bipush (v := 16) hx hb dX10_wrongByFrames_68 (by decide) ?_
          refine lv_icmp_ge (tgt := 99) hx hb dX10_wrongByFrames_70 (by decide) (fun c_25 => ?_) (fun c_25 => ?_)
          · skip
            have c_25n : t2 ≥ 16 := ngeT (a := t2) (b := 16) hj2 rfl (by omega) (by omega) c_25
            have c_25m : ¬ t2 < 16 := by omega
            refine lv_goto (tgt := 108) hx hb dX10_wrongByFrames_99 (by decide) ?_
            exact K108 _ dd w H locs ls hdd8 hwf (by first | exact absurd ht2 (by omega) | (have e9 : t2 = 16 := (by omega); subst e9; exact he)) hw hS (lv_sub hl [1, 2, 3, 4, 5] rfl)
          · skip
            have c_25n : ¬ t2 ≥ 16 := ngeF (a := t2) (b := 16) hj2 rfl (by omega) (by omega) c_25
            have c_25m : t2 < 16 := by omega
            refine lv_aload_n hx hb dX10_wrongByFrames_73 rfl (lv_at hl 4 rfl) ?_
            refine r_get14 X hw dX10_wrongByFrames_74 ?_
            refine lv_iload hx hb dX10_wrongByFrames_77 (lv_at hl 0 rfl) ?_
            refine lv_aload_n hx hb dX10_wrongByFrames_79 rfl (lv_at hl 4 rfl) ?_
            refine r_get8 X hw dX10_wrongByFrames_80 ?_
            refine lv_bipush (v := 16) hx hb dX10_wrongByFrames_83 (by decide) ?_
            refine lv_iload hx hb dX10_wrongByFrames_85 (lv_at hl 1 rfl) ?_
            refine lv_imul hx hb dX10_wrongByFrames_87 ?_
            refine lv_iload hx hb dX10_wrongByFrames_88 (lv_at hl 0 rfl) ?_
            refine lv_iadd hx hb dX10_wrongByFrames_90 ?_
            refine h_ald8 (n := (16 * (40 * k + i)) + t2) X hw (nadd (a := 16 * (40 * k + i)) (b := t2) (nmul (a := 16) (b := 40 * k + i) rfl hwf) hj2) (by omega) dX10_wrongByFrames_91 ?_
            refine h_ast14 (n := t2) X hw hS hj2 (by omega) dX10_wrongByFrames_92 (fun H locs hw hS => ?_)
            refine lv_iinc (v := j2 + 1) (lv' := [(5, .int (j2 + 1)), (4, .int w), (3, .int j), (2, .int (bI cb)), (0, .ref (L (.inl 0))), (1, .int a)]) hx hb dX10_wrongByFrames_93 hl (k := 0) rfl rfl (by decide) rfl (fun ls hl => ?_)
            refine lv_goto (tgt := 66) hx hb dX10_wrongByFrames_96 (by decide) ?_
            exact ih2 (t2 + 1) dd _ _ H locs ls (by omega) (nadd (a := t2) (b := 1) hj2 rfl) hdd8 hwf he (by rw [cpA_0 (g := fun j => y.2.1 8 (16 * (40 * k + i) + j)) rfl] at hw; exact hw) hS hl
      refine lv_iload_n hx hb dX10_wrongByFrames_9 rfl (lv_at hl 0 rfl) ?_
      refine lv_aload_n hx hb dX10_wrongByFrames_10 rfl (lv_at hl 2 rfl) ?_
      refine r_get2 X hw dX10_wrongByFrames_11 ?_
      refine lv_iload_n hx hb dX10_wrongByFrames_14 rfl (lv_at hl 3 rfl) ?_
      refine h_ald2 (n := k) X hw ha (by omega) dX10_wrongByFrames_15 ?_
      refine lv_icmp_ge (tgt := 189) hx hb dX10_wrongByFrames_16 (by decide) (fun c_26 => ?_) (fun c_26 => ?_)
      · skip
        have c_26n : i ≥ om := ngeT (a := i) (b := om) hj hR.1 (by omega) (by omega) c_26
        have c_26m : ¬ i < om := by omega
        refine lv_iload_n hx hb dX10_wrongByFrames_189 rfl (lv_at hl 1 rfl) ?_
        refine lv_if_eq (tgt := 202) hx hb dX10_wrongByFrames_190 (by decide) (fun c_27 => ?_) (fun c_27 => ?_)
        · skip
          have c_27 := bI_f c_27
          refine lv_iconst (v := (-1)) hx hb dX10_wrongByFrames_202 (by decide) ?_
          exact m_iret X hr hlk hw hS (Nat.zero_le _) (Nat.zero_le _) ⟨(h2, d2), by rw [he]; first | exact absurd hu (by omega) | (unfold r_wbf; rw [if_neg (by assumption), if_pos ⟨by assumption, by assumption⟩]; done) | (unfold r_wbf; rw [if_neg (by assumption), if_pos ⟨by assumption, by assumption⟩]; exact hj) | (unfold r_wbf; rw [if_pos (by assumption), if_neg (by rw [show cb = false by assumption]; decide)]; done) | (unfold r_wbf; rw [if_pos (by assumption), if_neg (by rw [show cb = false by assumption]; decide)]; exact hj), rfl, by rw [he]; first | exact absurd hu (by omega) | (unfold r_wbf; rw [if_neg (by assumption), if_pos ⟨by assumption, by assumption⟩]; done) | (unfold r_wbf; rw [if_neg (by assumption), if_pos ⟨by assumption, by assumption⟩]; exact hj) | (unfold r_wbf; rw [if_pos (by assumption), if_neg (by rw [show cb = false by assumption]; decide)]; done) | (unfold r_wbf; rw [if_pos (by assumption), if_neg (by rw [show cb = false by assumption]; decide)]; exact hj)⟩ dX10_wrongByFrames_203
        · skip
          have c_27 := bI_t c_27
          refine lv_aload_n hx hb dX10_wrongByFrames_193 rfl (lv_at hl 2 rfl) ?_
          refine r_get2 X hw dX10_wrongByFrames_194 ?_
          refine lv_iload_n hx hb dX10_wrongByFrames_197 rfl (lv_at hl 3 rfl) ?_
          refine h_ald2 (n := k) X hw ha (by omega) dX10_wrongByFrames_198 ?_
          refine lv_goto (tgt := 203) hx hb dX10_wrongByFrames_199 (by decide) ?_
          exact m_iret X hr hlk hw hS (Nat.zero_le _) (Nat.zero_le _) ⟨(h2, d2), by rw [he]; first | exact absurd hu (by omega) | (unfold r_wbf; rw [if_neg (by assumption), if_pos ⟨by assumption, by assumption⟩]; done) | (unfold r_wbf; rw [if_neg (by assumption), if_pos ⟨by assumption, by assumption⟩]; exact hj) | (unfold r_wbf; rw [if_pos (by assumption), if_neg (by rw [show cb = false by assumption]; decide)]; done) | (unfold r_wbf; rw [if_pos (by assumption), if_neg (by rw [show cb = false by assumption]; decide)]; exact hj), rfl, by rw [he]; first | exact absurd hu (by omega) | (unfold r_wbf; rw [if_neg (by assumption), if_pos ⟨by assumption, by assumption⟩]; done) | (unfold r_wbf; rw [if_neg (by assumption), if_pos ⟨by assumption, by assumption⟩]; exact hj) | (unfold r_wbf; rw [if_pos (by assumption), if_neg (by rw [show cb = false by assumption]; decide)]; done) | (unfold r_wbf; rw [if_pos (by assumption), if_neg (by rw [show cb = false by assumption]; decide)]; exact hj)⟩ dX10_wrongByFrames_203
      · skip
        have c_26n : ¬ i ≥ om := ngeF (a := i) (b := om) hj hR.1 (by omega) (by omega) c_26
        have c_26m : i < om := by omega
        refine lv_bipush (v := 40) hx hb dX10_wrongByFrames_19 (by decide) ?_
        refine lv_iload_n hx hb dX10_wrongByFrames_21 rfl (lv_at hl 3 rfl) ?_
        refine lv_imul hx hb dX10_wrongByFrames_22 ?_
        refine lv_iload_n hx hb dX10_wrongByFrames_23 rfl (lv_at hl 0 rfl) ?_
        refine lv_iadd hx hb dX10_wrongByFrames_24 ?_
        refine lv_istore (lv' := [(4, .int ((40 * a) + j)), (3, .int j), (2, .int (bI cb)), (0, .ref (L (.inl 0))), (1, .int a)]) hx hb dX10_wrongByFrames_25 hl (by decide) rfl (fun ls hl => ?_)
        refine lv_aload_n hx hb dX10_wrongByFrames_27 rfl (lv_at hl 3 rfl) ?_
        refine r_get7 X hw dX10_wrongByFrames_28 ?_
        refine lv_iload hx hb dX10_wrongByFrames_31 (lv_at hl 0 rfl) ?_
        refine h_ald7 (n := (40 * k) + i) X hw (nadd (a := 40 * k) (b := i) (nmul (a := 40) (b := k) rfl ha) hj) (by omega) dX10_wrongByFrames_33 ?_
        refine lv_if_lt (tgt := 102) hx hb dX10_wrongByFrames_34 (by decide) (fun c_28 => ?_) (fun c_28 => ?_)
        · skip
          refine lv_iload_n hx hb dX10_wrongByFrames_102 rfl (lv_at hl 2 rfl) ?_
          refine lv_if_ne (tgt := 108) hx hb dX10_wrongByFrames_103 (by decide) (fun c_29 => ?_) (fun c_29 => ?_)
          · skip
            have c_29 := bI_t c_29
            exact K108 _ _ _ H locs ls hd2 (nadd (a := 40 * k) (b := i) (nmul (a := 40) (b := k) rfl ha) hj) (by rw [he]; unfold r_wbf; rw [if_pos (by assumption), if_pos (by assumption)]) hw hS (lv_sub hl [0, 1, 2, 3, 4] rfl)
          · skip
            have c_29 := bI_f c_29
            refine lv_iload_n hx hb dX10_wrongByFrames_106 rfl (lv_at hl 1 rfl) ?_
            exact m_iret X hr hlk hw hS (Nat.zero_le _) (Nat.zero_le _) ⟨(h2, d2), by rw [he]; first | exact absurd hu (by omega) | (unfold r_wbf; rw [if_neg (by assumption), if_pos ⟨by assumption, by assumption⟩]; done) | (unfold r_wbf; rw [if_neg (by assumption), if_pos ⟨by assumption, by assumption⟩]; exact hj) | (unfold r_wbf; rw [if_pos (by assumption), if_neg (by rw [show cb = false by assumption]; decide)]; done) | (unfold r_wbf; rw [if_pos (by assumption), if_neg (by rw [show cb = false by assumption]; decide)]; exact hj), rfl, by rw [he]; first | exact absurd hu (by omega) | (unfold r_wbf; rw [if_neg (by assumption), if_pos ⟨by assumption, by assumption⟩]; done) | (unfold r_wbf; rw [if_neg (by assumption), if_pos ⟨by assumption, by assumption⟩]; exact hj) | (unfold r_wbf; rw [if_pos (by assumption), if_neg (by rw [show cb = false by assumption]; decide)]; done) | (unfold r_wbf; rw [if_pos (by assumption), if_neg (by rw [show cb = false by assumption]; decide)]; exact hj)⟩ dX10_wrongByFrames_107
        · skip
          obtain ⟨dd, hddb, hdd⟩ := r_dp_nat (hR.2.2.2.2.2.2 (40 * k + i) (by omega)) c_28
          have hddc : (y.2.1 7 (40 * k + i)).toNatClampNeg = dd := by rw [hdd]; exact nI_clamp (by omega)
          refine lv_iload_n hx hb dX10_wrongByFrames_37 rfl (lv_at hl 2 rfl) ?_
          refine lv_if_eq (tgt := 52) hx hb dX10_wrongByFrames_38 (by decide) (fun c_30 => ?_) (fun c_30 => ?_)
          · skip
            have c_30 := bI_f c_30
            refine lv_aload_n hx hb dX10_wrongByFrames_52 rfl (lv_at hl 3 rfl) ?_
            refine lv_aload_n hx hb dX10_wrongByFrames_53 rfl (lv_at hl 3 rfl) ?_
            refine r_get7 X hw dX10_wrongByFrames_54 ?_
            refine lv_iload hx hb dX10_wrongByFrames_57 (lv_at hl 0 rfl) ?_
            refine h_ald7 (n := (40 * k) + i) X hw (nadd (a := 40 * k) (b := i) (nmul (a := 40) (b := k) rfl ha) hj) (by omega) dX10_wrongByFrames_59 ?_
            refine h_put15 X hw hS hdd dX10_wrongByFrames_60 (fun H locs hw hS => ?_)
            refine lv_iconst (v := 0) hx hb dX10_wrongByFrames_63 (by decide) ?_
            refine lv_istore (lv' := [(5, .int 0), (4, .int ((40 * a) + j)), (3, .int j), (2, .int (bI cb)), (0, .ref (L (.inl 0))), (1, .int a)]) hx hb dX10_wrongByFrames_64 hl (by decide) rfl (fun ls hl => ?_)
            exact K66 16 0 dd _ _ H locs ls rfl rfl hddb (nadd (a := 40 * k) (b := i) (nmul (a := 40) (b := k) rfl ha) hj) (by rw [he]; unfold r_wbf; rw [if_neg (by assumption), if_neg (by clear K66 K108 ih hl hw hS X hr hlk hx hb hnm he; intro z; obtain ⟨z1, z2⟩ := z; simp_all), hddc]) hw hS hl
          · skip
            have c_30 := bI_t c_30
            refine lv_aload_n hx hb dX10_wrongByFrames_41 rfl (lv_at hl 3 rfl) ?_
            refine lv_iload_n hx hb dX10_wrongByFrames_42 rfl (lv_at hl 4 rfl) ?_
            refine lv_iload_n hx hb dX10_wrongByFrames_43 rfl (lv_at hl 1 rfl) ?_
            refine m_calli (m_runV (i := .inl 0) (ci := 8) (As := [.int a, .int j]) (rest := []) X (k_X10_goesToFrame Γ l L y h2 d2 a j k i (by omega) ha (by omega) hj (by omega)) v_X10_goesToFrame ml_X10_191 hw hS rfl rfl rfl rfl hl.1 ⟨Nat.le_of_ble_eq_true rfl, Nat.le_of_ble_eq_true rfl⟩ (Nat.le_of_ble_eq_true rfl) ⟨Nat.le_of_ble_eq_true rfl, Nat.le_of_ble_eq_true rfl⟩ dX10_wrongByFrames_44) hS (fun r_32 L1 M1 H locs hp_31 hw hS => ?_)
            obtain ⟨rfl, e1, e2⟩ := hp_31
            rw [e1, e2] at hw; clear e1 e2
            refine lv_if_ne (tgt := 52) hx hb dX10_wrongByFrames_47 (by decide) (fun c_33 => ?_) (fun c_33 => ?_)
            · skip
              have c_33 := bI_t c_33
              refine lv_aload_n hx hb dX10_wrongByFrames_52 rfl (lv_at hl 3 rfl) ?_
              refine lv_aload_n hx hb dX10_wrongByFrames_53 rfl (lv_at hl 3 rfl) ?_
              refine r_get7 X hw dX10_wrongByFrames_54 ?_
              refine lv_iload hx hb dX10_wrongByFrames_57 (lv_at hl 0 rfl) ?_
              refine h_ald7 (n := (40 * k) + i) X hw (nadd (a := 40 * k) (b := i) (nmul (a := 40) (b := k) rfl ha) hj) (by omega) dX10_wrongByFrames_59 ?_
              refine h_put15 X hw hS hdd dX10_wrongByFrames_60 (fun H locs hw hS => ?_)
              refine lv_iconst (v := 0) hx hb dX10_wrongByFrames_63 (by decide) ?_
              refine lv_istore (lv' := [(5, .int 0), (4, .int ((40 * a) + j)), (3, .int j), (2, .int (bI cb)), (0, .ref (L (.inl 0))), (1, .int a)]) hx hb dX10_wrongByFrames_64 hl (by decide) rfl (fun ls hl => ?_)
              exact K66 16 0 dd _ _ H locs ls rfl rfl hddb (nadd (a := 40 * k) (b := i) (nmul (a := 40) (b := k) rfl ha) hj) (by rw [he]; unfold r_wbf; rw [if_neg (by assumption), if_neg (by clear K66 K108 ih hl hw hS X hr hlk hx hb hnm he; intro z; obtain ⟨z1, z2⟩ := z; simp_all), hddc]) hw hS hl
            · skip
              have c_33 := bI_f c_33
              refine lv_iload_n hx hb dX10_wrongByFrames_50 rfl (lv_at hl 1 rfl) ?_
              exact m_iret X hr hlk hw hS (Nat.zero_le _) (Nat.zero_le _) ⟨(h2, d2), by rw [he]; first | exact absurd hu (by omega) | (unfold r_wbf; rw [if_neg (by assumption), if_pos ⟨by assumption, by assumption⟩]; done) | (unfold r_wbf; rw [if_neg (by assumption), if_pos ⟨by assumption, by assumption⟩]; exact hj) | (unfold r_wbf; rw [if_pos (by assumption), if_neg (by rw [show cb = false by assumption]; decide)]; done) | (unfold r_wbf; rw [if_pos (by assumption), if_neg (by rw [show cb = false by assumption]; decide)]; exact hj), rfl, by rw [he]; first | exact absurd hu (by omega) | (unfold r_wbf; rw [if_neg (by assumption), if_pos ⟨by assumption, by assumption⟩]; done) | (unfold r_wbf; rw [if_neg (by assumption), if_pos ⟨by assumption, by assumption⟩]; exact hj) | (unfold r_wbf; rw [if_pos (by assumption), if_neg (by rw [show cb = false by assumption]; decide)]; done) | (unfold r_wbf; rw [if_pos (by assumption), if_neg (by rw [show cb = false by assumption]; decide)]; exact hj)⟩ dX10_wrongByFrames_51
  refine lv_aload_n hx hb dX10_wrongByFrames_0 rfl (lv_at hl 0 rfl) ?_
  refine lv_iload_n hx hb dX10_wrongByFrames_1 rfl (lv_at hl 1 rfl) ?_
  refine m_callv (m_runV (i := .inl 0) (ci := 8) (As := [.int a]) (rest := []) X (k_X10_begins Γ l L x h d a k (pm k) ha hk (hR.2.2.2.2.2.1 k hk).1 (hR.2.2.2.2.2.1 k hk).2) v_X10_begins ml_X10_188 hw hS rfl rfl rfl rfl hl.1 ⟨Nat.le_of_ble_eq_true rfl, Nat.le_of_ble_eq_true rfl⟩ (Nat.le_of_ble_eq_true rfl) ⟨Nat.le_of_ble_eq_true rfl, Nat.le_of_ble_eq_true rfl⟩ dX10_wrongByFrames_2) hS (fun L1 M1 H locs hp_34 hw hS => ?_)
  obtain ⟨e1, e2⟩ := hp_34
  rw [e1, e2] at hw; clear e1 e2
  refine lv_iconst (v := 1) hx hb dX10_wrongByFrames_5 (by decide) ?_
  refine lv_istore_n (lv' := [(2, .int 1), (0, .ref (L (.inl 0))), (1, .int a)]) hx hb dX10_wrongByFrames_6 rfl hl (by decide) rfl (fun ls hl => ?_)
  refine lv_iconst (v := 0) hx hb dX10_wrongByFrames_7 (by decide) ?_
  refine lv_istore_n (lv' := [(3, .int 0), (2, .int 1), (0, .ref (L (.inl 0))), (1, .int a)]) hx hb dX10_wrongByFrames_8 rfl hl (by decide) rfl (fun ls hl => ?_)
  exact K9 om 0 _ _ _ true _ _ _ ls (by omega) rfl (Nat.zero_le _) (RC_forget hR) rfl hw hS hl
