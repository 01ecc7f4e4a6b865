/-! THE REFERENCE'S MACHINE: a failure -/
theorem nlt1 {a : Int32} (h : 1 ≤ a.toInt) : ¬ a < 0 := by
  intro z
  have := Int32.lt_iff_toInt_lt.mp z
  have e0 : (0 : Int32).toInt = 0 := by decide
  omega
theorem FI_S {E : Ev} {x : RS} {f mk k : Nat} {v : Int32} (h : FI E x f mk) (hk : 24 ≤ k) : FI E (sS x k v) f mk := by
  obtain ⟨h1, h2, h3, h4, h5, h6⟩ := h
  exact ⟨CK_S h1 (by omega), h2, h3, by rw [sS_o (by omega)]; exact h4, h5, TH_S h6 (by omega)⟩
theorem FI_dn {E : Ev} {y : RS} {f mk : Nat} (h : FI E y f mk) : (f = 0 ∧ (sS y 22 (y.1 22 - 1)).1 22 = -1 ∧ CK E.1 (sS y 22 (y.1 22 - 1))) ∨ ∃ f1, f = f1 + 1 ∧ FI E (sS y 22 (y.1 22 - 1)) f1 mk := by
  obtain ⟨h1, h2, h3, h4, h5, h6⟩ := h
  by_cases w : f = 0
  · refine Or.inl ⟨w, ?_, CK_S h1 (by decide)⟩
    rw [sS_k, h4, w]
    rfl
  · obtain ⟨f1, rfl⟩ : ∃ f1, f = f1 + 1 := ⟨f - 1, by omega⟩
    refine Or.inr ⟨f1, rfl, CK_S h1 (by decide), fun l hl => h2 l (by omega), ?_, ?_, by omega, TH_S h6 (by decide)⟩
    · obtain ⟨k, i, hL, -⟩ := h2 f1 (by omega)
      exact ⟨k, i, hL⟩
    · rw [sS_k, h4]
      exact (nsub (a := f1 + 1) (b := 1) (by omega) rfl rfl).trans rfl
theorem FI_h {E : Ev} {y : RS} {f mk k i : Nat} {h : Nat → Int32} (hF : FI E y f mk) (hL : LB E y f mk k i) (hh : ∀ p, p < 16 → h p = eT E k i p) : MV (sA y 19 f 0) f mk (h, 0) := by
  obtain ⟨h1, h2, h3, h4, h5, h6⟩ := hF
  have e24 : (sA y 19 f 0).2.1 24 = y.2.1 24 := sA_o (by decide)
  have e25 : (sA y 19 f 0).2.1 25 = y.2.1 25 := sA_o (by decide)
  refine ⟨h4, h5, by rw [sA_k, upd_same]; rfl, Nat.zero_le _, ?_, fun p hp => ?_⟩
  · unfold TH at h6 ⊢
    rw [e24, e25]
    exact h6
  · have hp : p < 8 + 0 := hp
    show VT mk _ (vc (h p)) _
    rw [e24, hh p (by omega)]
    exact hL.2.2.2.2.2.2 p (by omega)
theorem RC_CK {x y : RS} {k om hn : Nat} {hf hto hat hwh pm : Nat → Nat} (h : CK x y) (hR : RC x k om hn hf hto hat hwh pm) : RC y k om hn hf hto hat hwh pm := by
  unfold RC p_HH at hR ⊢
  rw [h.1 1 (by decide), h.1 2 (by decide), h.1 5 (by decide), h.1 6 (by decide), h.1 7 (by decide)]
  exact hR
theorem push_0 {h : Nat → Int32} {k : Int32} : p_push (h, 0) k = some (upd h 8 k, 1) := rfl
theorem v_X10_after : mVm yX10_after cX10_after 7 (some .int) 1 := ⟨cd_X10_after, im_X10_after, se_X10_after, ini_X10, by decide, by decide, by decide +kernel⟩
set_option maxHeartbeats 4000000 in
set_option maxRecDepth 100000 in
theorem k_X10_after (Γ : mG) (l : Launch) (L : mI → Nat) (x : RS) (how : Int32) (E : Ev) (f mk : Nat) (hE : EO E) (hpre0 : (how = 0 ∧ MI E x f mk) ∨ (how = 20 ∧ CK E.1 x) ∨ (1 ≤ how.toInt ∧ how.toInt ≤ 9 ∧ FI E x f mk)) : mMet Γ l yX10_after cX10_after 7 (some .int) { frames := 1, cells := 0, slots := 0, locals := 25 } [.ref (L (.inl 0)), .int how] L (rM Γ L x) (mQi Γ (fun r L1 M1 => ∃ (y : RS) (f1 mk1 : Nat), L1 = L ∧ M1 = rM Γ L y ∧ y.1 29 = x.1 29 ∧ CK E.1 y ∧ (r < 0 → MI E y f1 mk1))) := by
  rcases hpre0 with ⟨rfl, hI⟩ | ⟨rfl, hC⟩ | ⟨h1, h9, hFI⟩
  · refine m_start (by decide) (Nat.le_of_ble_eq_true rfl) ?_
    intro p e s m args below meth c A ls X hr hlk hnm hw hS hl
    have hx := X.1.1
    have hb := X.1.2.1
    have hl : lv_has ls 7 [(0, .ref (L (.inl 0))), (1, .int 0)] := hl
    refine lv_iload_n hx hb dX10_after_0 rfl (lv_at hl 1 rfl) ?_
    refine lv_if_ne (tgt := 6) hx hb dX10_after_1 (by decide) (fun h => absurd rfl h) (fun _ => ?_)
    refine lv_iconst (v := (-1)) hx hb dX10_after_4 (by decide) ?_
    exact m_iret X hr hlk hw hS (Nat.zero_le _) (Nat.zero_le _) ⟨x, f, mk, rfl, rfl, rfl, hI.1, fun _ => hI⟩ dX10_after_5
  · refine m_start (by decide) (Nat.le_of_ble_eq_true rfl) ?_
    intro p e s m args below meth c A ls X hr hlk hnm hw hS hl
    have hx := X.1.1
    have hb := X.1.2.1
    have hl : lv_has ls 7 [(0, .ref (L (.inl 0))), (1, .int 20)] := hl
    refine lv_iload_n hx hb dX10_after_0 rfl (lv_at hl 1 rfl) ?_
    refine lv_if_ne (tgt := 6) hx hb dX10_after_1 (by decide) (fun _ => ?_) (fun h => absurd h (by decide))
    refine lv_iload_n hx hb dX10_after_6 rfl (lv_at hl 1 rfl) ?_
    refine lv_bipush (v := 20) hx hb dX10_after_7 (by decide) ?_
    refine lv_icmp_ne (tgt := 14) hx hb dX10_after_9 (by decide) (fun c_3 => ?_) (fun c_3 => ?_)
    · skip
      exact absurd c_3 (by decide)
    · skip
      have c_3n : 20 = 20 := nneF (a := 20) (b := 20) rfl rfl (by omega) (by omega) c_3
      refine lv_iconst (v := 0) hx hb dX10_after_12 (by decide) ?_
      exact m_iret X hr hlk hw hS (Nat.zero_le _) (Nat.zero_le _) ⟨x, 0, 0, rfl, rfl, rfl, hC, fun z => absurd z (by decide)⟩ dX10_after_13
  · refine m_start (by decide) (Nat.le_of_ble_eq_true rfl) ?_
    intro p e s m args below meth c A ls X hr hlk hnm hw hS hl
    have hx := X.1.1
    have hb := X.1.2.1
    have hl : lv_has ls 7 [(0, .ref (L (.inl 0))), (1, .int how)] := hl
    have K96 : ∀ (n : Nat) (nb : Int32) (y : RS) (H : Heap) (locs : List Loc) (ls : Array Slot), ((n = 0 ∧ y.1 22 = -1 ∧ CK E.1 y) ∨ ∃ f1, n = f1 + 1 ∧ FI E y f1 mk) → y.1 29 = x.1 29 → mW Γ.1 vwCl A L (rM Γ L y) H → va_S A s.heap H locs → lv_has ls 7 [(2, .int nb), (0, .ref (L (.inl 0))), (1, .int how)] → W p l e { frames := 1, cells := 0, slots := 0, locals := 25 } s m args below meth c H locs 0 0 (MQ below (mQi Γ (fun r L1 M1 => ∃ (y : RS) (f1 mk1 : Nat), L1 = L ∧ M1 = rM Γ L y ∧ y.1 29 = x.1 29 ∧ CK E.1 y ∧ (r < 0 → MI E y f1 mk1)) A) args s 0 0 A) (F0 m 96 ls []) := by
      clear hw hS hl
      intro n
      induction n with
      | zero =>
        intro nb y H locs ls hst h29 hw hS hl
        rcases hst with ⟨-, h22, hC⟩ | ⟨f9, e9, -⟩
        · skip
          refine lv_aload_n hx hb dX10_after_96 rfl (lv_at hl 1 rfl) ?_
          refine r_get22 X hw dX10_after_97 ?_
          refine lv_if_lt (tgt := 266) hx hb dX10_after_100 (by decide) (fun _ => ?_) (fun c => absurd (by rw [h22]; decide) c)
          refine lv_aload_n hx hb dX10_after_266 rfl (lv_at hl 1 rfl) ?_
          refine lv_iload_n hx hb dX10_after_267 rfl (lv_at hl 0 rfl) ?_
          refine r_put28 X hw hS dX10_after_268 (fun H locs hw hS => ?_)
          refine lv_iload_n hx hb dX10_after_271 rfl (lv_at hl 2 rfl) ?_
          exact m_iret X hr hlk hw hS (Nat.zero_le _) (Nat.zero_le _) ⟨_, 0, 0, rfl, rfl, (sS_o (by decide)).trans h29, CK_S hC (by decide), fun z => absurd z (nlt1 h1)⟩ dX10_after_272
        · omega
      | succ n ih =>
        intro nb y H locs ls hst h29 hw hS hl
        rcases hst with ⟨e9, -⟩ | ⟨f2, e9, hF2⟩
        · omega
        obtain rfl : f2 = n := by omega
        obtain ⟨hC, hLW2, ⟨k, i, hL⟩, h22, hf8, hTH⟩ := id hF2
        obtain ⟨hk8, hrq, hty, -⟩ := hE k hL.2.2.1
        obtain ⟨-, h, z, hh, -, -, -, hhd⟩ := hty.2.2.2.2 i hL.2.2.2.1 hL.2.2.2.2.1
        have hRy := RC_CK hC hrq
        have hi40 : i < 40 := Nat.lt_of_lt_of_le hL.2.2.2.1 hrq.2.1
        have hn6 := hrq.2.2.2.1
        have K116 : ∀ (u t : Nat) (j mm : Int32) (H : Heap) (locs : List Loc) (ls : Array Slot), t + u = hN E.1 k → j = nI t → mm = nI k → mW Γ.1 vwCl A L (rM Γ L y) H → va_S A s.heap H locs → lv_has ls 7 [(4, .int j), (3, .int mm), (2, .int nb), (0, .ref (L (.inl 0))), (1, .int how)] → W p l e { frames := 1, cells := 0, slots := 0, locals := 25 } s m args below meth c H locs 0 0 (MQ below (mQi Γ (fun r L1 M1 => ∃ (y : RS) (f1 mk1 : Nat), L1 = L ∧ M1 = rM Γ L y ∧ y.1 29 = x.1 29 ∧ CK E.1 y ∧ (r < 0 → MI E y f1 mk1)) A) args s 0 0 A) (F0 m 116 ls []) := by
          clear hw hS hl
          intro u
          induction u with
          | zero =>
            intro t j mm H locs ls ht hj hmm hw hS hl
            refine lv_iload hx hb dX10_after_116 (lv_at hl 0 rfl) ?_
            refine lv_aload_n hx hb dX10_after_118 rfl (lv_at hl 3 rfl) ?_
            refine r_get5 X hw dX10_after_119 ?_
            refine lv_iload_n hx hb dX10_after_122 rfl (lv_at hl 1 rfl) ?_
            refine r_ald5N (n := k) X hw hmm (by omega) dX10_after_123 ?_
            refine lv_icmp_ge (tgt := 253) hx hb dX10_after_124 (by decide) (fun c_4 => ?_) (fun c_4 => ?_)
            · skip
              have c_4n : t ≥ (hN E.1 k) := ngeT (a := t) (b := hN E.1 k) hj hRy.2.2.1 (by omega) (by omega) c_4
              have c_4m : ¬ t < (hN E.1 k) := by omega
              refine lv_aload_n hx hb dX10_after_253 rfl (lv_at hl 3 rfl) ?_
              refine lv_dup hx hb dX10_after_254 rfl ?_
              refine r_get22 X hw dX10_after_255 ?_
              refine lv_iconst (v := 1) hx hb dX10_after_258 (by decide) ?_
              refine lv_isub hx hb dX10_after_259 ?_
              refine r_put22 X hw hS dX10_after_260 (fun H locs hw hS => ?_)
              refine lv_goto (tgt := 96) hx hb dX10_after_263 (by decide) ?_
              exact ih nb _ H locs ls (FI_dn hF2) ((sS_o (by decide)).trans h29) hw hS (lv_sub hl [2, 3, 4] rfl)
            · skip
              have c_4n : ¬ t ≥ (hN E.1 k) := ngeF (a := t) (b := hN E.1 k) hj hRy.2.2.1 (by omega) (by omega) c_4
              have c_4m : t < (hN E.1 k) := by omega
              exact absurd ht (by omega)
          | succ u ih2 =>
            intro t j mm H locs ls ht hj hmm hw hS hl
            obtain ⟨q1, q2, q3, q4, q5, q6, q7, -⟩ := hRy.2.2.2.2.1 t (by omega)
            refine lv_iload hx hb dX10_after_116 (lv_at hl 0 rfl) ?_
            refine lv_aload_n hx hb dX10_after_118 rfl (lv_at hl 3 rfl) ?_
            refine r_get5 X hw dX10_after_119 ?_
            refine lv_iload_n hx hb dX10_after_122 rfl (lv_at hl 1 rfl) ?_
            refine r_ald5N (n := k) X hw hmm (by omega) dX10_after_123 ?_
            refine lv_icmp_ge (tgt := 253) hx hb dX10_after_124 (by decide) (fun c_5 => ?_) (fun c_5 => ?_)
            · skip
              have c_5n : t ≥ (hN E.1 k) := ngeT (a := t) (b := hN E.1 k) hj hRy.2.2.1 (by omega) (by omega) c_5
              have c_5m : ¬ t < (hN E.1 k) := by omega
              exact absurd ht (by omega)
            · skip
              have c_5n : ¬ t ≥ (hN E.1 k) := ngeF (a := t) (b := hN E.1 k) hj hRy.2.2.1 (by omega) (by omega) c_5
              have c_5m : t < (hN E.1 k) := by omega
              refine lv_iconst (v := 4) hx hb dX10_after_127 (by decide) ?_
              refine lv_bipush (v := 6) hx hb dX10_after_128 (by decide) ?_
              refine lv_iload_n hx hb dX10_after_130 rfl (lv_at hl 1 rfl) ?_
              refine lv_imul hx hb dX10_after_131 ?_
              refine lv_iload hx hb dX10_after_132 (lv_at hl 0 rfl) ?_
              refine lv_iadd hx hb dX10_after_134 ?_
              refine lv_imul hx hb dX10_after_135 ?_
              refine lv_istore (lv' := [(5, .int (4 * ((6 * mm) + j))), (4, .int j), (3, .int mm), (2, .int nb), (0, .ref (L (.inl 0))), (1, .int how)]) hx hb dX10_after_136 hl (by decide) rfl (fun ls hl => ?_)
              refine lv_aload_n hx hb dX10_after_138 rfl (lv_at hl 4 rfl) ?_
              refine r_get6 X hw dX10_after_139 ?_
              refine lv_iload hx hb dX10_after_142 (lv_at hl 0 rfl) ?_
              refine lv_iconst (v := 3) hx hb dX10_after_144 (by decide) ?_
              refine lv_iadd hx hb dX10_after_145 ?_
              refine r_ald6N (n := (4 * ((6 * k) + t)) + 3) X hw (nadd (a := 4 * ((6 * k) + t)) (b := 3) (nmul (a := 4) (b := (6 * k) + t) rfl (nadd (a := 6 * k) (b := t) (nmul (a := 6) (b := k) rfl hmm) hj)) rfl) (by omega) dX10_after_146 ?_
              refine lv_if_eq (tgt := 163) hx hb dX10_after_147 (by decide) (fun c_6 => ?_) (fun c_6 => ?_)
              · skip
                refine lv_iconst (v := 1) hx hb dX10_after_163 (by decide) ?_
                refine lv_goto (tgt := 168) hx hb dX10_after_164 (by decide) ?_
                refine lv_istore (lv' := [(6, .int 1), (5, .int (4 * ((6 * mm) + j))), (4, .int j), (3, .int mm), (2, .int nb), (0, .ref (L (.inl 0))), (1, .int how)]) hx hb dX10_after_168 hl (by decide) rfl (fun ls hl => ?_)
                refine lv_iload hx hb dX10_after_170 (lv_at hl 0 rfl) ?_
                refine lv_if_eq (tgt := 247) hx hb dX10_after_172 (by decide) (fun c_7 => ?_) (fun c_7 => ?_)
                · skip
                  exact absurd c_7 (by decide)
                · skip
                  have c_7n : ¬ 1 = 0 := neqF (a := 1) (b := 0) rfl rfl (by omega) (by omega) c_7
                  refine lv_aload_n hx hb dX10_after_175 rfl (lv_at hl 5 rfl) ?_
                  refine r_get21 X hw dX10_after_176 ?_
                  refine lv_aload_n hx hb dX10_after_179 rfl (lv_at hl 5 rfl) ?_
                  refine r_get22 X hw dX10_after_180 ?_
                  refine r_ald21N (n := f2) X hw h22 (by omega) dX10_after_183 ?_
                  refine lv_i2l (v := (y.2.1 21 f2).toInt64) hx hb dX10_after_184 rfl ?_
                  refine lv_aload_n hx hb dX10_after_185 rfl (lv_at hl 5 rfl) ?_
                  refine r_get6 X hw dX10_after_186 ?_
                  refine lv_iload hx hb dX10_after_189 (lv_at hl 1 rfl) ?_
                  refine r_ald6N (n := 4 * ((6 * k) + t)) X hw (nmul (a := 4) (b := (6 * k) + t) rfl (nadd (a := 6 * k) (b := t) (nmul (a := 6) (b := k) rfl hmm) hj)) (by omega) dX10_after_191 ?_
                  refine lv_i2l (v := (y.2.1 6 (4 * ((6 * k) + t))).toInt64) hx hb dX10_after_192 rfl ?_
                  refine lv_aload_n hx hb dX10_after_193 rfl (lv_at hl 5 rfl) ?_
                  refine r_get6 X hw dX10_after_194 ?_
                  refine lv_iload hx hb dX10_after_197 (lv_at hl 1 rfl) ?_
                  refine lv_iconst (v := 1) hx hb dX10_after_199 (by decide) ?_
                  refine lv_iadd hx hb dX10_after_200 ?_
                  refine r_ald6N (n := (4 * ((6 * k) + t)) + 1) X hw (nadd (a := 4 * ((6 * k) + t)) (b := 1) (nmul (a := 4) (b := (6 * k) + t) rfl (nadd (a := 6 * k) (b := t) (nmul (a := 6) (b := k) rfl hmm) hj)) rfl) (by omega) dX10_after_201 ?_
                  refine lv_iconst (v := 1) hx hb dX10_after_202 (by decide) ?_
                  refine lv_isub hx hb dX10_after_203 ?_
                  refine lv_i2l (v := ((y.2.1 6 ((4 * ((6 * k) + t)) + 1)) - 1).toInt64) hx hb dX10_after_204 rfl ?_
                  refine m_calli (m_runS (As := [.long ((y.2.1 21 f2).toInt64), .long ((y.2.1 6 (4 * ((6 * k) + t))).toInt64), .long (((y.2.1 6 ((4 * ((6 * k) + t)) + 1)) - 1).toInt64)]) (rest := []) X (k_X10_isIn Γ l L (rM Γ L y) ((y.2.1 21 f2).toInt64) ((y.2.1 6 (4 * ((6 * k) + t))).toInt64) (((y.2.1 6 ((4 * ((6 * k) + t)) + 1)) - 1).toInt64) ) s_X10_isIn ml_X10_79 hw hS rfl hl.1 ⟨Nat.le_of_ble_eq_true rfl, Nat.le_of_ble_eq_true rfl⟩ (Nat.le_of_ble_eq_true rfl) ⟨Nat.le_of_ble_eq_true rfl, Nat.le_of_ble_eq_true rfl⟩ dX10_after_205) hS (fun r_9 L1 M1 H locs hp_8 hw hS => ?_)
                  obtain ⟨rfl, e1, e2⟩ := hp_8
                  rw [e1, e2] at hw; clear e1 e2
                  refine lv_if_eq (tgt := 247) hx hb dX10_after_208 (by decide) (fun c_10 => ?_) (fun c_10 => ?_)
                  · skip
                    have c_10 := bI_f c_10
                    have c_10 := (isInN (a := (y.2.1 21 f2)) (b := (y.2.1 6 (4 * ((6 * k) + t)))) (c := ((y.2.1 6 ((4 * ((6 * k) + t)) + 1)) - 1)) (i := i) (l := hF E.1 k t) (h := (hT E.1 k t) - 1) hL.2.1 q1 (nsub (a := hT E.1 k t) (b := 1) (by omega) q2 rfl) (by omega) (by omega) (by omega)).symm.trans c_10
                    refine lv_iinc (v := j + 1) (lv' := [(4, .int (j + 1)), (6, .int 1), (5, .int (4 * ((6 * mm) + j))), (3, .int mm), (2, .int nb), (0, .ref (L (.inl 0))), (1, .int how)]) hx hb dX10_after_247 hl (k := 2) rfl rfl (by decide) rfl (fun ls hl => ?_)
                    refine lv_goto (tgt := 116) hx hb dX10_after_250 (by decide) ?_
                    exact ih2 (t + 1) _ mm H locs ls (by omega) (nadd (a := t) (b := 1) hj rfl) hmm hw hS (lv_sub hl [0, 3, 4, 5, 6] rfl)
                  · skip
                    have c_10 := bI_t c_10
                    have c_10 := (isInN (a := (y.2.1 21 f2)) (b := (y.2.1 6 (4 * ((6 * k) + t)))) (c := ((y.2.1 6 ((4 * ((6 * k) + t)) + 1)) - 1)) (i := i) (l := hF E.1 k t) (h := (hT E.1 k t) - 1) hL.2.1 q1 (nsub (a := hT E.1 k t) (b := 1) (by omega) q2 rfl) (by omega) (by omega) (by omega)).symm.trans c_10
                    refine lv_aload_n hx hb dX10_after_211 rfl (lv_at hl 5 rfl) ?_
                    refine r_get19 X hw dX10_after_212 ?_
                    refine lv_aload_n hx hb dX10_after_215 rfl (lv_at hl 5 rfl) ?_
                    refine r_get22 X hw dX10_after_216 ?_
                    refine lv_iconst (v := 0) hx hb dX10_after_219 (by decide) ?_
                    refine r_ast19N (n := f2) X hw hS h22 (by omega) dX10_after_220 (fun H locs hw hS => ?_)
                    refine lv_aload_n hx hb dX10_after_221 rfl (lv_at hl 5 rfl) ?_
                    refine lv_iload_n hx hb dX10_after_222 rfl (lv_at hl 4 rfl) ?_
                    refine lv_i2l (v := nb.toInt64) hx hb dX10_after_223 rfl ?_
                    have hVp := FI_h hF2 hL hh
                    have hpre := mvPut (k := 1) (v := nb.toInt64) hVp push_0 trivial
                    refine m_callv (m_runV (i := .inl 0) (ci := 8) (As := [.long nb.toInt64]) (rest := []) X (k_X10_put Γ l L (sA y 19 f2 0) nb.toInt64 f2 _ hVp.1 hVp.2.1 hVp.2.2.1 hpre.1) v_X10_put ml_X10_238 hw hS rfl rfl rfl rfl hl.1 ⟨Nat.le_of_ble_eq_true rfl, Nat.le_of_ble_eq_true rfl⟩ (Nat.le_of_ble_eq_true rfl) ⟨Nat.le_of_ble_eq_true rfl, Nat.le_of_ble_eq_true rfl⟩ dX10_after_224) hS (fun L1 M1 H locs hp_11 hw hS => ?_)
                    obtain ⟨e1, e2⟩ := hp_11
                    rw [e1, e2] at hw; clear e1 e2
                    obtain ⟨-, hV2, hq2⟩ := hpre
                    generalize hgy : r_put (sA y 19 f2 0) f2 ((h, 0) : PL).2 nb.toInt64 = y_11 at hw hV2 hq2
                    clear hgy
                    refine lv_aload_n hx hb dX10_after_227 rfl (lv_at hl 5 rfl) ?_
                    refine r_get21 X hw dX10_after_228 ?_
                    refine lv_aload_n hx hb dX10_after_231 rfl (lv_at hl 5 rfl) ?_
                    refine r_get22 X hw dX10_after_232 ?_
                    refine lv_aload_n hx hb dX10_after_235 rfl (lv_at hl 5 rfl) ?_
                    refine r_get6 X hw dX10_after_236 ?_
                    refine lv_iload hx hb dX10_after_239 (lv_at hl 1 rfl) ?_
                    refine lv_iconst (v := 2) hx hb dX10_after_241 (by decide) ?_
                    refine lv_iadd hx hb dX10_after_242 ?_
                    refine r_ald6N (n := (4 * ((6 * k) + t)) + 2) X hw (nadd (a := 4 * ((6 * k) + t)) (b := 2) (nmul (a := 4) (b := (6 * k) + t) rfl (nadd (a := 6 * k) (b := t) (nmul (a := 6) (b := k) rfl hmm) hj)) rfl) (by omega) dX10_after_243 ?_
                    refine lv_topi (fun v_12 ev_12 => ?_)
                    obtain rfl : v_12 = nI (hA E.1 k t) := ev_12.trans ((congrFun ((hq2.1.1 6 (by decide) (by decide) (by decide) (by decide)).trans (sA_o (by decide))) _).trans q3)
                    clear ev_12
                    refine r_ast21N (n := f2) X hw hS hV2.1 (by omega) dX10_after_244 (fun H locs hw hS => ?_)
                    refine lv_iconst (v := (-1)) hx hb dX10_after_245 (by decide) ?_
                    have hdc := of_decide_eq_true c_10
                    have hMIt := MI_to (CK_mr (CK_A hC (by decide)) hq2.1) (LW_lw (LW_lw hLW2 (lw_A lw_rf (Nat.le_refl _) (by decide))) (lw_mr hq2.1 hq2.2.1)) ((congrFun ((hq2.1.1 20 (by decide) (by decide) (by decide) (by decide)).trans (sA_o (by decide))) f2).trans hL.1) hL.2.2.1 hL.2.2.2.2.2.1 hV2 (hhd t (by omega) hdc.1 hdc.2)
                    exact m_iret X hr hlk hw hS (Nat.zero_le _) (Nat.zero_le _) ⟨_, f2, mk, rfl, rfl, (hq2.1.2.1 29 (by decide)).trans h29, hMIt.1, fun _ => hMIt⟩ dX10_after_246
              · skip
                refine lv_aload_n hx hb dX10_after_150 rfl (lv_at hl 4 rfl) ?_
                refine r_get6 X hw dX10_after_151 ?_
                refine lv_iload hx hb dX10_after_154 (lv_at hl 0 rfl) ?_
                refine lv_iconst (v := 3) hx hb dX10_after_156 (by decide) ?_
                refine lv_iadd hx hb dX10_after_157 ?_
                refine r_ald6N (n := (4 * ((6 * k) + t)) + 3) X hw (nadd (a := 4 * ((6 * k) + t)) (b := 3) (nmul (a := 4) (b := (6 * k) + t) rfl (nadd (a := 6 * k) (b := t) (nmul (a := 6) (b := k) rfl hmm) hj)) rfl) (by omega) dX10_after_158 ?_
                refine lv_iload_n hx hb dX10_after_159 rfl (lv_at hl 5 rfl) ?_
                refine lv_icmp_ne (tgt := 167) hx hb dX10_after_160 (by decide) (fun c_13 => ?_) (fun c_13 => ?_)
                · skip
                  refine lv_iconst (v := 0) hx hb dX10_after_167 (by decide) ?_
                  refine lv_istore (lv' := [(6, .int 0), (5, .int (4 * ((6 * mm) + j))), (4, .int j), (3, .int mm), (2, .int nb), (0, .ref (L (.inl 0))), (1, .int how)]) hx hb dX10_after_168 hl (by decide) rfl (fun ls hl => ?_)
                  refine lv_iload hx hb dX10_after_170 (lv_at hl 0 rfl) ?_
                  refine lv_if_eq (tgt := 247) hx hb dX10_after_172 (by decide) (fun c_14 => ?_) (fun c_14 => ?_)
                  · skip
                    have c_14n : 0 = 0 := neqT (a := 0) (b := 0) rfl rfl (by omega) (by omega) c_14
                    refine lv_iinc (v := j + 1) (lv' := [(4, .int (j + 1)), (6, .int 0), (5, .int (4 * ((6 * mm) + j))), (3, .int mm), (2, .int nb), (0, .ref (L (.inl 0))), (1, .int how)]) hx hb dX10_after_247 hl (k := 2) rfl rfl (by decide) rfl (fun ls hl => ?_)
                    refine lv_goto (tgt := 116) hx hb dX10_after_250 (by decide) ?_
                    exact ih2 (t + 1) _ mm H locs ls (by omega) (nadd (a := t) (b := 1) hj rfl) hmm hw hS (lv_sub hl [0, 3, 4, 5, 6] rfl)
                  · skip
                    exact absurd c_14 (by decide)
                · skip
                  refine lv_iconst (v := 1) hx hb dX10_after_163 (by decide) ?_
                  refine lv_goto (tgt := 168) hx hb dX10_after_164 (by decide) ?_
                  refine lv_istore (lv' := [(6, .int 1), (5, .int (4 * ((6 * mm) + j))), (4, .int j), (3, .int mm), (2, .int nb), (0, .ref (L (.inl 0))), (1, .int how)]) hx hb dX10_after_168 hl (by decide) rfl (fun ls hl => ?_)
                  refine lv_iload hx hb dX10_after_170 (lv_at hl 0 rfl) ?_
                  refine lv_if_eq (tgt := 247) hx hb dX10_after_172 (by decide) (fun c_15 => ?_) (fun c_15 => ?_)
                  · skip
                    exact absurd c_15 (by decide)
                  · skip
                    have c_15n : ¬ 1 = 0 := neqF (a := 1) (b := 0) rfl rfl (by omega) (by omega) c_15
                    refine lv_aload_n hx hb dX10_after_175 rfl (lv_at hl 5 rfl) ?_
                    refine r_get21 X hw dX10_after_176 ?_
                    refine lv_aload_n hx hb dX10_after_179 rfl (lv_at hl 5 rfl) ?_
                    refine r_get22 X hw dX10_after_180 ?_
                    refine r_ald21N (n := f2) X hw h22 (by omega) dX10_after_183 ?_
                    refine lv_i2l (v := (y.2.1 21 f2).toInt64) hx hb dX10_after_184 rfl ?_
                    refine lv_aload_n hx hb dX10_after_185 rfl (lv_at hl 5 rfl) ?_
                    refine r_get6 X hw dX10_after_186 ?_
                    refine lv_iload hx hb dX10_after_189 (lv_at hl 1 rfl) ?_
                    refine r_ald6N (n := 4 * ((6 * k) + t)) X hw (nmul (a := 4) (b := (6 * k) + t) rfl (nadd (a := 6 * k) (b := t) (nmul (a := 6) (b := k) rfl hmm) hj)) (by omega) dX10_after_191 ?_
                    refine lv_i2l (v := (y.2.1 6 (4 * ((6 * k) + t))).toInt64) hx hb dX10_after_192 rfl ?_
                    refine lv_aload_n hx hb dX10_after_193 rfl (lv_at hl 5 rfl) ?_
                    refine r_get6 X hw dX10_after_194 ?_
                    refine lv_iload hx hb dX10_after_197 (lv_at hl 1 rfl) ?_
                    refine lv_iconst (v := 1) hx hb dX10_after_199 (by decide) ?_
                    refine lv_iadd hx hb dX10_after_200 ?_
                    refine r_ald6N (n := (4 * ((6 * k) + t)) + 1) X hw (nadd (a := 4 * ((6 * k) + t)) (b := 1) (nmul (a := 4) (b := (6 * k) + t) rfl (nadd (a := 6 * k) (b := t) (nmul (a := 6) (b := k) rfl hmm) hj)) rfl) (by omega) dX10_after_201 ?_
                    refine lv_iconst (v := 1) hx hb dX10_after_202 (by decide) ?_
                    refine lv_isub hx hb dX10_after_203 ?_
                    refine lv_i2l (v := ((y.2.1 6 ((4 * ((6 * k) + t)) + 1)) - 1).toInt64) hx hb dX10_after_204 rfl ?_
                    refine m_calli (m_runS (As := [.long ((y.2.1 21 f2).toInt64), .long ((y.2.1 6 (4 * ((6 * k) + t))).toInt64), .long (((y.2.1 6 ((4 * ((6 * k) + t)) + 1)) - 1).toInt64)]) (rest := []) X (k_X10_isIn Γ l L (rM Γ L y) ((y.2.1 21 f2).toInt64) ((y.2.1 6 (4 * ((6 * k) + t))).toInt64) (((y.2.1 6 ((4 * ((6 * k) + t)) + 1)) - 1).toInt64) ) s_X10_isIn ml_X10_79 hw hS rfl hl.1 ⟨Nat.le_of_ble_eq_true rfl, Nat.le_of_ble_eq_true rfl⟩ (Nat.le_of_ble_eq_true rfl) ⟨Nat.le_of_ble_eq_true rfl, Nat.le_of_ble_eq_true rfl⟩ dX10_after_205) hS (fun r_17 L1 M1 H locs hp_16 hw hS => ?_)
                    obtain ⟨rfl, e1, e2⟩ := hp_16
                    rw [e1, e2] at hw; clear e1 e2
                    refine lv_if_eq (tgt := 247) hx hb dX10_after_208 (by decide) (fun c_18 => ?_) (fun c_18 => ?_)
                    · skip
                      have c_18 := bI_f c_18
                      have c_18 := (isInN (a := (y.2.1 21 f2)) (b := (y.2.1 6 (4 * ((6 * k) + t)))) (c := ((y.2.1 6 ((4 * ((6 * k) + t)) + 1)) - 1)) (i := i) (l := hF E.1 k t) (h := (hT E.1 k t) - 1) hL.2.1 q1 (nsub (a := hT E.1 k t) (b := 1) (by omega) q2 rfl) (by omega) (by omega) (by omega)).symm.trans c_18
                      refine lv_iinc (v := j + 1) (lv' := [(4, .int (j + 1)), (6, .int 1), (5, .int (4 * ((6 * mm) + j))), (3, .int mm), (2, .int nb), (0, .ref (L (.inl 0))), (1, .int how)]) hx hb dX10_after_247 hl (k := 2) rfl rfl (by decide) rfl (fun ls hl => ?_)
                      refine lv_goto (tgt := 116) hx hb dX10_after_250 (by decide) ?_
                      exact ih2 (t + 1) _ mm H locs ls (by omega) (nadd (a := t) (b := 1) hj rfl) hmm hw hS (lv_sub hl [0, 3, 4, 5, 6] rfl)
                    · skip
                      have c_18 := bI_t c_18
                      have c_18 := (isInN (a := (y.2.1 21 f2)) (b := (y.2.1 6 (4 * ((6 * k) + t)))) (c := ((y.2.1 6 ((4 * ((6 * k) + t)) + 1)) - 1)) (i := i) (l := hF E.1 k t) (h := (hT E.1 k t) - 1) hL.2.1 q1 (nsub (a := hT E.1 k t) (b := 1) (by omega) q2 rfl) (by omega) (by omega) (by omega)).symm.trans c_18
                      refine lv_aload_n hx hb dX10_after_211 rfl (lv_at hl 5 rfl) ?_
                      refine r_get19 X hw dX10_after_212 ?_
                      refine lv_aload_n hx hb dX10_after_215 rfl (lv_at hl 5 rfl) ?_
                      refine r_get22 X hw dX10_after_216 ?_
                      refine lv_iconst (v := 0) hx hb dX10_after_219 (by decide) ?_
                      refine r_ast19N (n := f2) X hw hS h22 (by omega) dX10_after_220 (fun H locs hw hS => ?_)
                      refine lv_aload_n hx hb dX10_after_221 rfl (lv_at hl 5 rfl) ?_
                      refine lv_iload_n hx hb dX10_after_222 rfl (lv_at hl 4 rfl) ?_
                      refine lv_i2l (v := nb.toInt64) hx hb dX10_after_223 rfl ?_
                      have hVp := FI_h hF2 hL hh
                      have hpre := mvPut (k := 1) (v := nb.toInt64) hVp push_0 trivial
                      refine m_callv (m_runV (i := .inl 0) (ci := 8) (As := [.long nb.toInt64]) (rest := []) X (k_X10_put Γ l L (sA y 19 f2 0) nb.toInt64 f2 _ hVp.1 hVp.2.1 hVp.2.2.1 hpre.1) v_X10_put ml_X10_238 hw hS rfl rfl rfl rfl hl.1 ⟨Nat.le_of_ble_eq_true rfl, Nat.le_of_ble_eq_true rfl⟩ (Nat.le_of_ble_eq_true rfl) ⟨Nat.le_of_ble_eq_true rfl, Nat.le_of_ble_eq_true rfl⟩ dX10_after_224) hS (fun L1 M1 H locs hp_19 hw hS => ?_)
                      obtain ⟨e1, e2⟩ := hp_19
                      rw [e1, e2] at hw; clear e1 e2
                      obtain ⟨-, hV2, hq2⟩ := hpre
                      generalize hgy : r_put (sA y 19 f2 0) f2 ((h, 0) : PL).2 nb.toInt64 = y_19 at hw hV2 hq2
                      clear hgy
                      refine lv_aload_n hx hb dX10_after_227 rfl (lv_at hl 5 rfl) ?_
                      refine r_get21 X hw dX10_after_228 ?_
                      refine lv_aload_n hx hb dX10_after_231 rfl (lv_at hl 5 rfl) ?_
                      refine r_get22 X hw dX10_after_232 ?_
                      refine lv_aload_n hx hb dX10_after_235 rfl (lv_at hl 5 rfl) ?_
                      refine r_get6 X hw dX10_after_236 ?_
                      refine lv_iload hx hb dX10_after_239 (lv_at hl 1 rfl) ?_
                      refine lv_iconst (v := 2) hx hb dX10_after_241 (by decide) ?_
                      refine lv_iadd hx hb dX10_after_242 ?_
                      refine r_ald6N (n := (4 * ((6 * k) + t)) + 2) X hw (nadd (a := 4 * ((6 * k) + t)) (b := 2) (nmul (a := 4) (b := (6 * k) + t) rfl (nadd (a := 6 * k) (b := t) (nmul (a := 6) (b := k) rfl hmm) hj)) rfl) (by omega) dX10_after_243 ?_
                      refine lv_topi (fun v_20 ev_20 => ?_)
                      obtain rfl : v_20 = nI (hA E.1 k t) := ev_20.trans ((congrFun ((hq2.1.1 6 (by decide) (by decide) (by decide) (by decide)).trans (sA_o (by decide))) _).trans q3)
                      clear ev_20
                      refine r_ast21N (n := f2) X hw hS hV2.1 (by omega) dX10_after_244 (fun H locs hw hS => ?_)
                      refine lv_iconst (v := (-1)) hx hb dX10_after_245 (by decide) ?_
                      have hdc := of_decide_eq_true c_18
                      have hMIt := MI_to (CK_mr (CK_A hC (by decide)) hq2.1) (LW_lw (LW_lw hLW2 (lw_A lw_rf (Nat.le_refl _) (by decide))) (lw_mr hq2.1 hq2.2.1)) ((congrFun ((hq2.1.1 20 (by decide) (by decide) (by decide) (by decide)).trans (sA_o (by decide))) f2).trans hL.1) hL.2.2.1 hL.2.2.2.2.2.1 hV2 (hhd t (by omega) hdc.1 hdc.2)
                      exact m_iret X hr hlk hw hS (Nat.zero_le _) (Nat.zero_le _) ⟨_, f2, mk, rfl, rfl, (hq2.1.2.1 29 (by decide)).trans h29, hMIt.1, fun _ => hMIt⟩ dX10_after_246
        refine lv_aload_n hx hb dX10_after_96 rfl (lv_at hl 1 rfl) ?_
        refine r_get22 X hw dX10_after_97 ?_
        refine lv_if_lt (tgt := 266) hx hb dX10_after_100 (by decide) (fun c_21 => ?_) (fun c_21 => ?_)
        · skip
          have c_21n : f2 < 0 := nltT (a := f2) (b := 0) h22 rfl (by omega) (by omega) c_21
          have c_21m : ¬ 0 ≤ f2 := by omega
          exact absurd c_21n (by omega)
        · skip
          have c_21n : ¬ f2 < 0 := nltF (a := f2) (b := 0) h22 rfl (by omega) (by omega) c_21
          have c_21m : 0 ≤ f2 := by omega
          refine lv_aload_n hx hb dX10_after_103 rfl (lv_at hl 1 rfl) ?_
          refine r_get20 X hw dX10_after_104 ?_
          refine lv_aload_n hx hb dX10_after_107 rfl (lv_at hl 1 rfl) ?_
          refine r_get22 X hw dX10_after_108 ?_
          refine r_ald20N (n := f2) X hw h22 (by omega) dX10_after_111 ?_
          refine lv_istore_n (lv' := [(3, .int (y.2.1 20 f2)), (2, .int nb), (0, .ref (L (.inl 0))), (1, .int how)]) hx hb dX10_after_112 rfl hl (by decide) rfl (fun ls hl => ?_)
          refine lv_iconst (v := 0) hx hb dX10_after_113 (by decide) ?_
          refine lv_istore (lv' := [(4, .int 0), (3, .int (y.2.1 20 f2)), (2, .int nb), (0, .ref (L (.inl 0))), (1, .int how)]) hx hb dX10_after_114 hl (by decide) rfl (fun ls hl => ?_)
          exact K116 (hN E.1 k) 0 _ _ H locs ls (by omega) rfl hL.1 hw hS (lv_sub hl [0, 1, 2, 3, 4] rfl)
    obtain ⟨hC0, hLW0, ⟨k0, i0, hL0⟩, h220, hf80, hTH0⟩ := id hFI
    refine lv_iload_n hx hb dX10_after_0 rfl (lv_at hl 1 rfl) ?_
    refine lv_if_ne (tgt := 6) hx hb dX10_after_1 (by decide) (fun _ => ?_) (fun c => absurd h1 (by rw [c]; decide))
    refine lv_iload_n hx hb dX10_after_6 rfl (lv_at hl 1 rfl) ?_
    refine lv_bipush (v := 20) hx hb dX10_after_7 (by decide) ?_
    refine lv_icmp_ne (tgt := 14) hx hb dX10_after_9 (by decide) (fun _ => ?_) (fun c => absurd h9 (by rw [c]; decide))
    refine lv_iload_n hx hb dX10_after_14 rfl (lv_at hl 1 rfl) ?_
    refine lv_bipush (v := 9) hx hb dX10_after_15 (by decide) ?_
    refine lv_icmp_ne (tgt := 28) hx hb dX10_after_17 (by decide) (fun c_22 => ?_) (fun c_22 => ?_)
    · skip
      refine lv_aload_n hx hb dX10_after_28 rfl (lv_at hl 0 rfl) ?_
      refine lv_dup hx hb dX10_after_29 rfl ?_
      refine r_get30 X hw dX10_after_30 ?_
      refine lv_iconst (v := 1) hx hb dX10_after_33 (by decide) ?_
      refine lv_iadd hx hb dX10_after_34 ?_
      refine r_put30 X hw hS dX10_after_35 (fun H locs hw hS => ?_)
      refine lv_aload_n hx hb dX10_after_38 rfl (lv_at hl 0 rfl) ?_
      refine lv_aload_n hx hb dX10_after_39 rfl (lv_at hl 0 rfl) ?_
      refine r_get20 X hw dX10_after_40 ?_
      refine lv_aload_n hx hb dX10_after_43 rfl (lv_at hl 0 rfl) ?_
      refine r_get22 X hw dX10_after_44 ?_
      refine r_ald20N (n := f) X hw ((sS_o (by decide)).trans h220) (by omega) dX10_after_47 ?_
      refine lv_topi (fun v_23 ev_23 => ?_)
      obtain rfl : v_23 = nI (k0) := ev_23.trans hL0.1
      clear ev_23
      refine r_put31 X hw hS dX10_after_48 (fun H locs hw hS => ?_)
      refine lv_aload_n hx hb dX10_after_51 rfl (lv_at hl 0 rfl) ?_
      refine lv_aload_n hx hb dX10_after_52 rfl (lv_at hl 0 rfl) ?_
      refine r_get21 X hw dX10_after_53 ?_
      refine lv_aload_n hx hb dX10_after_56 rfl (lv_at hl 0 rfl) ?_
      refine r_get22 X hw dX10_after_57 ?_
      refine r_ald21N (n := f) X hw ((sS_o (by decide)).trans ((sS_o (by decide)).trans h220)) (by omega) dX10_after_60 ?_
      refine lv_topi (fun v_24 ev_24 => ?_)
      obtain rfl : v_24 = nI (i0) := ev_24.trans hL0.2.1
      clear ev_24
      refine r_put32 X hw hS dX10_after_61 (fun H locs hw hS => ?_)
      refine lv_iload_n hx hb dX10_after_64 rfl (lv_at hl 1 rfl) ?_
      refine lv_bipush (v := 7) hx hb dX10_after_65 (by decide) ?_
      refine lv_icmp_ne (tgt := 77) hx hb dX10_after_67 (by decide) (fun c_25 => ?_) (fun c_25 => ?_)
      · skip
        refine lv_iload_n hx hb dX10_after_77 rfl (lv_at hl 1 rfl) ?_
        refine lv_topi (fun nb0 enb => ?_)
        refine lv_istore_n (lv' := [(2, .int nb0), (0, .ref (L (.inl 0))), (1, .int how)]) hx hb dX10_after_78 rfl hl (by decide) rfl (fun ls hl => ?_)
        refine lv_aload_n hx hb dX10_after_79 rfl (lv_at hl 1 rfl) ?_
        refine r_get30 X hw dX10_after_80 ?_
        refine lv_bipush (v := 13) hx hb dX10_after_83 (by decide) ?_
        refine lv_icmp_ne (tgt := 96) hx hb dX10_after_85 (by decide) (fun c_26 => ?_) (fun c_26 => ?_)
        · skip
          exact K96 (f + 1) _ (sS (sS (sS x 30 ((x.1 30) + 1)) 31 (nI (k0))) 32 (nI (i0))) H locs ls (Or.inr ⟨f, rfl, FI_S (FI_S (FI_S hFI (by decide)) (by decide)) (by decide)⟩) ((sS_o (by decide)).trans ((sS_o (by decide)).trans (sS_o (by decide)))) hw hS (lv_sub hl [0, 1, 2] rfl)
        · skip
          refine lv_aload_n hx hb dX10_after_88 rfl (lv_at hl 1 rfl) ?_
          refine lv_iload_n hx hb dX10_after_89 rfl (lv_at hl 0 rfl) ?_
          refine r_put28 X hw hS dX10_after_90 (fun H locs hw hS => ?_)
          refine lv_bipush (v := 10) hx hb dX10_after_93 (by decide) ?_
          exact m_iret X hr hlk hw hS (Nat.zero_le _) (Nat.zero_le _) ⟨_, 0, 0, rfl, rfl, (sS_o (by decide)).trans ((sS_o (by decide)).trans ((sS_o (by decide)).trans (sS_o (by decide)))), CK_S (CK_S (CK_S (CK_S hC0 (by decide)) (by decide)) (by decide)) (by decide), fun z => absurd z (by decide)⟩ dX10_after_95
      · skip
        refine lv_aload_n hx hb dX10_after_70 rfl (lv_at hl 0 rfl) ?_
        refine r_get34 X hw dX10_after_71 ?_
        refine lv_goto (tgt := 78) hx hb dX10_after_74 (by decide) ?_
        refine lv_topi (fun nb0 enb => ?_)
        refine lv_istore_n (lv' := [(2, .int nb0), (0, .ref (L (.inl 0))), (1, .int how)]) hx hb dX10_after_78 rfl hl (by decide) rfl (fun ls hl => ?_)
        refine lv_aload_n hx hb dX10_after_79 rfl (lv_at hl 1 rfl) ?_
        refine r_get30 X hw dX10_after_80 ?_
        refine lv_bipush (v := 13) hx hb dX10_after_83 (by decide) ?_
        refine lv_icmp_ne (tgt := 96) hx hb dX10_after_85 (by decide) (fun c_27 => ?_) (fun c_27 => ?_)
        · skip
          exact K96 (f + 1) _ (sS (sS (sS x 30 ((x.1 30) + 1)) 31 (nI (k0))) 32 (nI (i0))) H locs ls (Or.inr ⟨f, rfl, FI_S (FI_S (FI_S hFI (by decide)) (by decide)) (by decide)⟩) ((sS_o (by decide)).trans ((sS_o (by decide)).trans (sS_o (by decide)))) hw hS (lv_sub hl [0, 1, 2] rfl)
        · skip
          refine lv_aload_n hx hb dX10_after_88 rfl (lv_at hl 1 rfl) ?_
          refine lv_iload_n hx hb dX10_after_89 rfl (lv_at hl 0 rfl) ?_
          refine r_put28 X hw hS dX10_after_90 (fun H locs hw hS => ?_)
          refine lv_bipush (v := 10) hx hb dX10_after_93 (by decide) ?_
          exact m_iret X hr hlk hw hS (Nat.zero_le _) (Nat.zero_le _) ⟨_, 0, 0, rfl, rfl, (sS_o (by decide)).trans ((sS_o (by decide)).trans ((sS_o (by decide)).trans (sS_o (by decide)))), CK_S (CK_S (CK_S (CK_S hC0 (by decide)) (by decide)) (by decide)) (by decide), fun z => absurd z (by decide)⟩ dX10_after_95
    · skip
      refine lv_aload_n hx hb dX10_after_20 rfl (lv_at hl 0 rfl) ?_
      refine lv_iconst (v := 0) hx hb dX10_after_21 (by decide) ?_
      refine r_put28 X hw hS dX10_after_22 (fun H locs hw hS => ?_)
      refine lv_bipush (v := 9) hx hb dX10_after_25 (by decide) ?_
      exact m_iret X hr hlk hw hS (Nat.zero_le _) (Nat.zero_le _) ⟨_, 0, 0, rfl, rfl, sS_o (by decide), CK_S hC0 (by decide), fun z => absurd z (by decide)⟩ dX10_after_27
