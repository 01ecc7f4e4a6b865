/-! THE REFERENCE'S MACHINE: a CALL -/
def cLr (x y : RS) (f d pt : Nat) : Prop := y.1 = x.1 ∧ y.2.1 = (sA x 19 f (nI (d - pt))).2.1 ∧ (∀ k, k ≠ 18 → y.2.2 k = x.2.2 k) ∧ ∀ j, j < 16 * (f + 1) → y.2.2 18 j = x.2.2 18 j
theorem cLr.s {x y : RS} {f d pt n : Nat} {v : Int64} (h : cLr x y f d pt) (hn : 16 * (f + 1) ≤ n) : cLr x (sJ y 18 n v) f d pt := by
  refine ⟨h.1, h.2.1, fun k hk => (sJ_o hk).trans (h.2.2.1 k hk), fun j hj => ?_⟩
  rw [sJ_k, updL_o (by omega)]
  exact h.2.2.2 j hj
theorem cLr.e {x y : RS} {f d pt t : Nat} (h : cLr x y f d pt) : cl_ x (sA (sA (sA (sS y 22 (nI (f + 1))) 20 (f + 1) (nI t)) 21 (f + 1) 0) 19 (f + 1) 0) f t d pt := by
  obtain ⟨h1, h2, h3, h4⟩ := h
  refine ⟨?_, fun k a b c => ?_, ?_, ?_, ?_, h3, h4⟩
  · show upd y.1 22 _ = _
    rw [h1]
  · rw [sA_o a, sA_o c, sA_o b]
    show y.2.1 k = _
    rw [h2, sA_o a]
  · rw [sA_k, sA_o (j := 19) (k := 21) (by decide), sA_o (j := 19) (k := 20) (by decide)]
    show upd (y.2.1 19) _ _ = _
    rw [h2, sA_k]
  · rw [sA_o (j := 20) (k := 19) (by decide), sA_o (j := 20) (k := 21) (by decide), sA_k]
    show upd (y.2.1 20) _ _ = _
    rw [h2, sA_o (j := 20) (k := 19) (by decide)]
  · rw [sA_o (j := 21) (k := 19) (by decide), sA_k, sA_o (j := 21) (k := 20) (by decide)]
    show upd (y.2.1 21) _ _ = _
    rw [h2, sA_o (j := 21) (k := 19) (by decide)]
theorem v_X10_calls : mVm yX10_calls cX10_calls 3 none 1 := ⟨cd_X10_calls, im_X10_calls, se_X10_calls, ini_X10, by decide, by decide, by decide +kernel⟩
set_option maxHeartbeats 4000000 in
set_option maxRecDepth 100000 in
theorem k_X10_calls (Γ : mG) (l : Launch) (L : mI → Nat) (x : RS) (a : Int32) (f t d pt : Nat) (ha : a = nI t) (ht : t < 8) (hf0 : x.1 22 = nI f) (hf7 : f < 7) (hd : x.2.1 19 f = nI d) (hd8 : d ≤ 8) (hpm : x.2.1 1 t = nI pt) (hpd : pt ≤ d) (hp4 : pt ≤ 4) : mMet Γ l yX10_calls cX10_calls 3 none { frames := 0, cells := 0, slots := 0, locals := 0 } [.ref (L (.inl 0)), .int a] L (rM Γ L x) (mQv Γ (fun L1 M1 => ∃ y : RS, L1 = L ∧ M1 = rM Γ L y ∧ cl_ x y f t d pt)) := by
  refine m_start (by decide) (Nat.le_of_ble_eq_true rfl) ?_
  intro p e s m args below meth c A ls X hr hlk hnm hw hS hl
  have hx := X.1.1
  have hb := X.1.2.1
  have hl : lv_has ls 3 [(0, .ref (L (.inl 0))), (1, .int a)] := hl
  have K20 : ∀ (n u : Nat) (j : Int32) (y : RS) (H : Heap) (locs : List Loc) (ls : Array Slot), u + n = pt → j = nI u → cLr x y f d pt → mW Γ.1 vwCl A L (rM Γ L y) H → va_S A s.heap H locs → lv_has ls 3 [(2, .int j), (0, .ref (L (.inl 0))), (1, .int a)] → W p l e { frames := 0, cells := 0, slots := 0, locals := 0 } s m args below meth c H locs 0 0 (MQ below (mQv Γ (fun L1 M1 => ∃ y : RS, L1 = L ∧ M1 = rM Γ L y ∧ cl_ x y f t d pt) A) args s 0 0 A) (F0 m 20 ls []) := by
    clear hw hS hl
    intro n
    induction n with
    | zero =>
      intro u j y H locs ls hu hj hc hw hS hl
      refine lv_iload_n hx hb dX10_calls_20 rfl (lv_at hl 0 rfl) ?_
      refine lv_aload_n hx hb dX10_calls_21 rfl (lv_at hl 1 rfl) ?_
      refine r_get1 X hw dX10_calls_22 ?_
      refine lv_iload_n hx hb dX10_calls_25 rfl (lv_at hl 2 rfl) ?_
      refine r_ald1N (n := t) X hw ha (by omega) dX10_calls_26 ?_
      refine lv_icmp_ge (tgt := 79) hx hb dX10_calls_27 (by decide) (fun c_1 => ?_) (fun c_1 => ?_)
      · skip
        have c_1n : u ≥ pt := ngeT (a := u) (b := pt) hj ((congrFun (congrFun hc.2.1 1) t).trans ((congrFun (sA_o (j := 1) (k := 19) (by decide)) t).trans hpm)) (by omega) (by omega) c_1
        have c_1m : ¬ u < pt := by omega
        refine lv_aload_n hx hb dX10_calls_79 rfl (lv_at hl 1 rfl) ?_
        refine lv_dup hx hb dX10_calls_80 rfl ?_
        refine r_get22 X hw dX10_calls_81 ?_
        refine lv_iconst (v := 1) hx hb dX10_calls_84 (by decide) ?_
        refine lv_iadd hx hb dX10_calls_85 ?_
        refine lv_topi (fun v_2 ev_2 => ?_)
        obtain rfl : v_2 = nI (f + 1) := ev_2.trans (nadd (a := f) (b := 1) ((congrFun hc.1 22).trans hf0) rfl)
        clear ev_2
        refine r_put22 X hw hS dX10_calls_86 (fun H locs hw hS => ?_)
        refine lv_aload_n hx hb dX10_calls_89 rfl (lv_at hl 1 rfl) ?_
        refine r_get20 X hw dX10_calls_90 ?_
        refine lv_aload_n hx hb dX10_calls_93 rfl (lv_at hl 1 rfl) ?_
        refine r_get22 X hw dX10_calls_94 ?_
        refine lv_iload_n hx hb dX10_calls_97 rfl (lv_at hl 2 rfl) ?_
        refine lv_topi (fun v_3 ev_3 => ?_)
        obtain rfl : v_3 = nI (t) := ev_3.trans ha
        clear ev_3
        refine r_ast20N (n := f + 1) X hw hS (sS_k y 22 (nI (f + 1))) (by omega) dX10_calls_98 (fun H locs hw hS => ?_)
        refine lv_aload_n hx hb dX10_calls_99 rfl (lv_at hl 1 rfl) ?_
        refine r_get21 X hw dX10_calls_100 ?_
        refine lv_aload_n hx hb dX10_calls_103 rfl (lv_at hl 1 rfl) ?_
        refine r_get22 X hw dX10_calls_104 ?_
        refine lv_iconst (v := 0) hx hb dX10_calls_107 (by decide) ?_
        refine r_ast21N (n := f + 1) X hw hS (sS_k y 22 (nI (f + 1))) (by omega) dX10_calls_108 (fun H locs hw hS => ?_)
        refine lv_aload_n hx hb dX10_calls_109 rfl (lv_at hl 1 rfl) ?_
        refine r_get19 X hw dX10_calls_110 ?_
        refine lv_aload_n hx hb dX10_calls_113 rfl (lv_at hl 1 rfl) ?_
        refine r_get22 X hw dX10_calls_114 ?_
        refine lv_iconst (v := 0) hx hb dX10_calls_117 (by decide) ?_
        refine r_ast19N (n := f + 1) X hw hS (sS_k y 22 (nI (f + 1))) (by omega) dX10_calls_118 (fun H locs hw hS => ?_)
        exact m_vret X hr hlk hw hS (Nat.zero_le _) (Nat.zero_le _) ⟨_, rfl, rfl, hc.e⟩ dX10_calls_119
      · skip
        have c_1n : ¬ u ≥ pt := ngeF (a := u) (b := pt) hj ((congrFun (congrFun hc.2.1 1) t).trans ((congrFun (sA_o (j := 1) (k := 19) (by decide)) t).trans hpm)) (by omega) (by omega) c_1
        have c_1m : u < pt := by omega
        exact absurd hu (by omega)
    | succ n ih =>
      intro u j y H locs ls hu hj hc hw hS hl
      refine lv_iload_n hx hb dX10_calls_20 rfl (lv_at hl 0 rfl) ?_
      refine lv_aload_n hx hb dX10_calls_21 rfl (lv_at hl 1 rfl) ?_
      refine r_get1 X hw dX10_calls_22 ?_
      refine lv_iload_n hx hb dX10_calls_25 rfl (lv_at hl 2 rfl) ?_
      refine r_ald1N (n := t) X hw ha (by omega) dX10_calls_26 ?_
      refine lv_icmp_ge (tgt := 79) hx hb dX10_calls_27 (by decide) (fun c_4 => ?_) (fun c_4 => ?_)
      · skip
        have c_4n : u ≥ pt := ngeT (a := u) (b := pt) hj ((congrFun (congrFun hc.2.1 1) t).trans ((congrFun (sA_o (j := 1) (k := 19) (by decide)) t).trans hpm)) (by omega) (by omega) c_4
        have c_4m : ¬ u < pt := by omega
        exact absurd hu (by omega)
      · skip
        have c_4n : ¬ u ≥ pt := ngeF (a := u) (b := pt) hj ((congrFun (congrFun hc.2.1 1) t).trans ((congrFun (sA_o (j := 1) (k := 19) (by decide)) t).trans hpm)) (by omega) (by omega) c_4
        have c_4m : u < pt := by omega
        refine lv_aload_n hx hb dX10_calls_30 rfl (lv_at hl 1 rfl) ?_
        refine r_get18 X hw dX10_calls_31 ?_
        refine lv_bipush (v := 16) hx hb dX10_calls_34 (by decide) ?_
        refine lv_aload_n hx hb dX10_calls_36 rfl (lv_at hl 1 rfl) ?_
        refine r_get22 X hw dX10_calls_37 ?_
        refine lv_iconst (v := 1) hx hb dX10_calls_40 (by decide) ?_
        refine lv_iadd hx hb dX10_calls_41 ?_
        refine lv_imul hx hb dX10_calls_42 ?_
        refine lv_iload_n hx hb dX10_calls_43 rfl (lv_at hl 0 rfl) ?_
        refine lv_iadd hx hb dX10_calls_44 ?_
        refine lv_aload_n hx hb dX10_calls_45 rfl (lv_at hl 1 rfl) ?_
        refine r_get18 X hw dX10_calls_46 ?_
        refine lv_bipush (v := 16) hx hb dX10_calls_49 (by decide) ?_
        refine lv_aload_n hx hb dX10_calls_51 rfl (lv_at hl 1 rfl) ?_
        refine r_get22 X hw dX10_calls_52 ?_
        refine lv_imul hx hb dX10_calls_55 ?_
        refine lv_bipush (v := 8) hx hb dX10_calls_56 (by decide) ?_
        refine lv_iadd hx hb dX10_calls_58 ?_
        refine lv_aload_n hx hb dX10_calls_59 rfl (lv_at hl 1 rfl) ?_
        refine r_get19 X hw dX10_calls_60 ?_
        refine lv_aload_n hx hb dX10_calls_63 rfl (lv_at hl 1 rfl) ?_
        refine r_get22 X hw dX10_calls_64 ?_
        refine r_ald19N (n := f) X hw ((congrFun hc.1 22).trans hf0) (by omega) dX10_calls_67 ?_
        refine lv_iadd hx hb dX10_calls_68 ?_
        refine lv_iload_n hx hb dX10_calls_69 rfl (lv_at hl 0 rfl) ?_
        refine lv_iadd hx hb dX10_calls_70 ?_
        refine r_ald18N (n := (((16 * f) + 8) + (d - pt)) + u) X hw (nadd (a := ((16 * f) + 8) + (d - pt)) (b := u) (nadd (a := (16 * f) + 8) (b := d - pt) (nadd (a := 16 * f) (b := 8) (nmul (a := 16) (b := f) rfl ((congrFun hc.1 22).trans hf0)) rfl) ((congrFun (congrFun hc.2.1 19) f).trans ((congrFun (sA_k x 19 f (nI (d - pt))) f).trans upd_same))) hj) (by omega) dX10_calls_71 ?_
        refine r_ast18N (n := (16 * (f + 1)) + u) X hw hS (nadd (a := 16 * (f + 1)) (b := u) (nmul (a := 16) (b := f + 1) rfl (nadd (a := f) (b := 1) ((congrFun hc.1 22).trans hf0) rfl)) hj) (by omega) dX10_calls_72 (fun H locs hw hS => ?_)
        refine lv_iinc (v := j + 1) (lv' := [(2, .int (j + 1)), (0, .ref (L (.inl 0))), (1, .int a)]) hx hb dX10_calls_73 hl (k := 0) rfl rfl (by decide) rfl (fun ls hl => ?_)
        refine lv_goto (tgt := 20) hx hb dX10_calls_76 (by decide) ?_
        exact ih (u + 1) _ _ H locs ls (by omega) (nadd (a := u) (b := 1) hj rfl) (hc.s (by omega)) hw hS hl
  refine lv_aload_n hx hb dX10_calls_0 rfl (lv_at hl 0 rfl) ?_
  refine r_get19 X hw dX10_calls_1 ?_
  refine lv_aload_n hx hb dX10_calls_4 rfl (lv_at hl 0 rfl) ?_
  refine r_get22 X hw dX10_calls_5 ?_
  refine lv_dup2_11 hx hb dX10_calls_8 rfl rfl ?_
  refine r_ald19N (n := f) X hw hf0 (by omega) dX10_calls_9 ?_
  refine lv_aload_n hx hb dX10_calls_10 rfl (lv_at hl 0 rfl) ?_
  refine r_get1 X hw dX10_calls_11 ?_
  refine lv_iload_n hx hb dX10_calls_14 rfl (lv_at hl 1 rfl) ?_
  refine r_ald1N (n := t) X hw ha (by omega) dX10_calls_15 ?_
  refine lv_isub hx hb dX10_calls_16 ?_
  refine lv_topi (fun v_5 ev_5 => ?_)
  obtain rfl : v_5 = nI (d - pt) := ev_5.trans (nsub (a := d) (b := pt) (by omega) hd hpm)
  clear ev_5
  refine r_ast19N (n := f) X hw hS hf0 (by omega) dX10_calls_17 (fun H locs hw hS => ?_)
  refine lv_iconst (v := 0) hx hb dX10_calls_18 (by decide) ?_
  refine lv_istore_n (lv' := [(2, .int 0), (0, .ref (L (.inl 0))), (1, .int a)]) hx hb dX10_calls_19 rfl hl (by decide) rfl (fun ls hl => ?_)
  exact K20 pt 0 _ (sA x 19 f (nI (d - pt))) H locs ls (by omega) rfl ⟨rfl, rfl, fun _ _ => rfl, fun _ _ => rfl⟩ hw hS (lv_sub hl [0, 1, 2] rfl)
theorem v_X10_others : mVm yX10_others cX10_others 7 (some .int) 2 := ⟨cd_X10_others, im_X10_others, se_X10_others, ini_X10, by decide, by decide, by decide +kernel⟩
set_option maxHeartbeats 4000000 in
set_option maxRecDepth 100000 in
theorem k_X10_others (Γ : mG) (l : Launch) (L : mI → Nat) (x : RS) (o : Int32) (a : Int64) (E : Ev) (f mk k i : Nat) (q z : PL) (ops : Nat → Int32) (as : Nat → Int64) (hE : EO E) (hCK : CK E.1 x) (hLW : LW E x f mk) (hL : LB E x f mk k i) (hV : MV x f mk q) (hop : p_op ops as k (oM E.1 k) (pM E.1) (nI i) o a q = some z) (ho26 : 26 ≤ o.toInt) (hnx : r_last o = false → FT E k (nI (i + 1)) z) (hld : r_leads o = true → FT E k a.toInt32 z) (hcall : o = 33 → ∀ t, a = lN t → t < k → eR E t) : mMet Γ l yX10_others cX10_others 7 (some .int) { frames := 1, cells := 0, slots := 0, locals := 22 } [.ref (L (.inl 0)), .int o, .long a] L (rM Γ L x) (mQi Γ (fun r L1 M1 => ∃ (y : RS) (f1 : Nat), L1 = L ∧ M1 = rM Γ L y ∧ y.1 29 = x.1 29 ∧ ((r = 0 ∧ mr x y f ∧ mo x y mk mk ∧ MV y f mk z ∧ r_last o = false) ∨ (r = 21 ∧ MI E y f1 mk) ∨ (r = 20 ∧ CK E.1 y) ∨ (r = 7 ∧ FI E y f mk)))) := by
  refine m_start (by decide) (Nat.le_of_ble_eq_true rfl) ?_
  intro p e s m args below meth c A ls X hr hlk hnm hw hS hl
  have hx := X.1.1
  have hb := X.1.2.1
  have hf0 : x.1 22 = nI f := hV.1
  have hf8 := hV.2.1
  have hq8 := hV.2.2.2.1
  have ho34 := (p_op_pos hop).2
  have hk8 := (hE k hL.2.2.1).1
  have hmr : mr x x f := mr.rf
  have hmo : mo x x mk mk := mo.rf
  have hlo : lo x x f := fun _ _ => rfl
  have hl : lv_has ls 7 [(0, .ref (L (.inl 0))), (1, .int o), (2, .long a)] := hl
  refine lv_bipush (v := 16) hx hb dX10_others_0 (by decide) ?_
  refine lv_aload_n hx hb dX10_others_2 rfl (lv_at hl 0 rfl) ?_
  refine r_get22 X hw dX10_others_3 ?_
  refine lv_imul hx hb dX10_others_6 ?_
  refine lv_bipush (v := 7) hx hb dX10_others_7 (by decide) ?_
  refine lv_iadd hx hb dX10_others_9 ?_
  refine lv_aload_n hx hb dX10_others_10 rfl (lv_at hl 0 rfl) ?_
  refine r_get19 X hw dX10_others_11 ?_
  refine lv_aload_n hx hb dX10_others_14 rfl (lv_at hl 0 rfl) ?_
  refine r_get22 X hw dX10_others_15 ?_
  refine r_ald19N (n := f) X hw hf0 (by omega) dX10_others_18 ?_
  refine lv_iadd hx hb dX10_others_19 ?_
  refine lv_istore (lv' := [(4, .int (((16 * (x.1 22)) + 7) + (x.2.1 19 f))), (0, .ref (L (.inl 0))), (1, .int o), (2, .long a)]) hx hb dX10_others_20 hl (by decide) rfl (fun ls hl => ?_)
  refine lv_aload_n hx hb dX10_others_22 rfl (lv_at hl 1 rfl) ?_
  refine r_get19 X hw dX10_others_23 ?_
  refine lv_aload_n hx hb dX10_others_26 rfl (lv_at hl 1 rfl) ?_
  refine r_get22 X hw dX10_others_27 ?_
  refine r_ald19N (n := f) X hw hf0 (by omega) dX10_others_30 ?_
  refine lv_if_le (tgt := 44) hx hb dX10_others_31 (by decide) (fun c_1 => ?_) (fun c_1 => ?_)
  · skip
    have c_1n : q.2 ≤ 0 := nleT (a := q.2) (b := 0) hV.2.2.1 rfl (by omega) (by omega) c_1
    have c_1m : ¬ 0 < q.2 := by omega
    refine lv_lconst (v := 0) hx hb dX10_others_44 (by decide) ?_
    refine lv_topl (fun w5 ew5 => ?_)
    refine lv_lstore (lv' := [(5, .long w5), (4, .int (((16 * (x.1 22)) + 7) + (x.2.1 19 f))), (0, .ref (L (.inl 0))), (1, .int o), (2, .long a)]) hx hb dX10_others_45 hl (by decide) rfl (fun ls hl => ?_)
    refine lv_iload_n hx hb dX10_others_47 rfl (lv_at hl 3 rfl) ?_
    by_cases c_2 : o.toInt < 26 ∨ 33 < o.toInt
    · refine lv_tableOut (tgt := 268) hx hb dX10_others_48 c_2 (by decide) ?_
      have hoe : o = 34 := Int32.toInt_inj.mp (show o.toInt = 34 by omega)
      rw [hoe, op_34] at hop
      have h1q := (popE hop).1
      exact absurd h1q (by omega)
    · have c_2b : o.toInt = 26 ∨ o.toInt = 27 ∨ o.toInt = 28 ∨ o.toInt = 29 ∨ o.toInt = 30 ∨ o.toInt = 31 ∨ o.toInt = 32 ∨ o.toInt = 33 := by omega
      rcases c_2b with c_2v | c_2v | c_2v | c_2v | c_2v | c_2v | c_2v | c_2v
      · have hoe : o = 26 := Int32.toInt_inj.mp c_2v
        refine lv_tableIn (off := 48) (tgt := 96) hx hb dX10_others_48 (by omega) (by omega) (by rw [c_2v]; rfl) (by decide) ?_
        rw [hoe, op_26] at hop
        obtain ⟨hin, hop⟩ := iteE hop
        have h1q : 1 ≤ q.2 := p_one_lt hin
        exact absurd h1q (by omega)
      · have hoe : o = 27 := Int32.toInt_inj.mp c_2v
        refine lv_tableIn (off := 56) (tgt := 104) hx hb dX10_others_48 (by omega) (by omega) (by rw [c_2v]; rfl) (by decide) ?_
        rw [hoe, op_27] at hop
        obtain ⟨hin, hop⟩ := iteE hop
        have h1q : 1 ≤ q.2 := p_one_lt hin
        exact absurd h1q (by omega)
      · have hoe : o = 28 := Int32.toInt_inj.mp c_2v
        refine lv_tableIn (off := 71) (tgt := 119) hx hb dX10_others_48 (by omega) (by omega) (by rw [c_2v]; rfl) (by decide) ?_
        rw [hoe, op_28] at hop
        obtain ⟨hin, hop⟩ := iteE hop
        have h1q : 1 ≤ q.2 := p_one_lt hin.1
        exact absurd h1q (by omega)
      · have hoe : o = 29 := Int32.toInt_inj.mp c_2v
        refine lv_tableIn (off := 100) (tgt := 148) hx hb dX10_others_48 (by omega) (by omega) (by rw [c_2v]; rfl) (by decide) ?_
        rw [hoe, op_29] at hop
        obtain ⟨hin, hop⟩ := iteE hop
        cases hop
        have hFT := hld (by rw [hoe]; decide)
        refine lv_aload_n hx hb dX10_others_148 rfl (lv_at hl 2 rfl) ?_
        refine r_get21 X hw dX10_others_149 ?_
        refine lv_aload_n hx hb dX10_others_152 rfl (lv_at hl 2 rfl) ?_
        refine r_get22 X hw dX10_others_153 ?_
        refine lv_lload_n hx hb dX10_others_156 rfl (lv_at hl 4 rfl) ?_
        refine lv_l2i (v := a.toInt32) hx hb dX10_others_157 rfl ?_
        refine r_ast21N (n := f) X hw hS hf0 (by omega) dX10_others_158 (fun H locs hw hS => ?_)
        refine lv_bipush (v := 21) hx hb dX10_others_159 (by decide) ?_
        exact m_iret X hr hlk hw hS (Nat.zero_le _) (Nat.zero_le _) ⟨_, f, rfl, rfl, rfl, Or.inr (Or.inl ⟨rfl, MI_to hCK hLW hL.1 hL.2.2.1 hL.2.2.2.2.2.1 hV hFT⟩)⟩ dX10_others_161
      · have hoe : o = 30 := Int32.toInt_inj.mp c_2v
        refine lv_tableIn (off := 114) (tgt := 162) hx hb dX10_others_48 (by omega) (by omega) (by rw [c_2v]; rfl) (by decide) ?_
        rw [hoe, op_30] at hop
        obtain ⟨hin, hop⟩ := iteE hop
        have h1q := (popE hop).1
        exact absurd h1q (by omega)
      · have hoe : o = 31 := Int32.toInt_inj.mp c_2v
        refine lv_tableIn (off := 114) (tgt := 162) hx hb dX10_others_48 (by omega) (by omega) (by rw [c_2v]; rfl) (by decide) ?_
        rw [hoe, op_31] at hop
        obtain ⟨hin, hop⟩ := iteE hop
        have h1q := (popE hop).1
        exact absurd h1q (by omega)
      · have hoe : o = 32 := Int32.toInt_inj.mp c_2v
        refine lv_tableIn (off := 162) (tgt := 210) hx hb dX10_others_48 (by omega) (by omega) (by rw [c_2v]; rfl) (by decide) ?_
        rw [hoe, op_32] at hop
        have h1q := (popE hop).1
        exact absurd h1q (by omega)
      · have hoe : o = 33 := Int32.toInt_inj.mp c_2v
        refine lv_tableIn (off := 211) (tgt := 259) hx hb dX10_others_48 (by omega) (by omega) (by rw [c_2v]; rfl) (by decide) ?_
        rw [hoe, op_33] at hop
        obtain ⟨hin, hop⟩ := iteE hop
        obtain ⟨w1, h1, hop⟩ := bindE hop
        obtain ⟨t, htk, hat⟩ := p_isL_nat (by omega) hin
        have hix : a.toInt32.toNatClampNeg = t := by rw [hat, lN_i]; exact nI_clamp (by omega)
        rw [hix] at h1
        have hpq := (p_popsE h1).1
        have hRt := hcall hoe t hat htk
        have hFT := hnx (by rw [hoe]; decide)
        have hrq := (hE k hL.2.2.1).2.1.2.2.2.2.2.1 t (by omega)
        have hl7 := hL.2.2.2.2.2.1
        refine lv_aload_n hx hb dX10_others_259 rfl (lv_at hl 2 rfl) ?_
        refine lv_lload_n hx hb dX10_others_260 rfl (lv_at hl 4 rfl) ?_
        refine lv_l2i (v := a.toInt32) hx hb dX10_others_261 rfl ?_
        refine m_callv (m_runV (i := .inl 0) (ci := 8) (As := [.int a.toInt32]) (rest := []) X (k_X10_calls Γ l L x a.toInt32 f t q.2 (pM E.1 t) ((congrArg Int64.toInt32 hat).trans (lN_i t)) (by omega) hf0 (by omega) hV.2.2.1 hq8 (by rw [hCK.1 1 (by decide)]; exact hrq.1) hpq hrq.2) v_X10_calls ml_X10_317 hw hS rfl rfl rfl rfl hl.1 ⟨Nat.le_of_ble_eq_true rfl, Nat.le_of_ble_eq_true rfl⟩ (Nat.le_of_ble_eq_true rfl) ⟨Nat.le_of_ble_eq_true rfl, Nat.le_of_ble_eq_true rfl⟩ dX10_others_262) hS (fun L1 M1 H locs hp_3 hw hS => ?_)
        obtain ⟨y_3, e1, e2, hcl_3⟩ := hp_3
        rw [e1, e2] at hw; clear e1 e2
        have hMI : MI E y_3 (f + 1) mk := MI_call hE hCK hLW hL hV htk hRt h1 hop hFT hcl_3
        refine lv_bipush (v := 21) hx hb dX10_others_265 (by decide) ?_
        exact m_iret X hr hlk hw hS (Nat.zero_le _) (Nat.zero_le _) ⟨_, f + 1, rfl, rfl, (by rw [hcl_3.1, upd_oth (by decide)]), Or.inr (Or.inl ⟨rfl, hMI⟩)⟩ dX10_others_267
  · skip
    have c_1n : ¬ q.2 ≤ 0 := nleF (a := q.2) (b := 0) hV.2.2.1 rfl (by omega) (by omega) c_1
    have c_1m : 0 < q.2 := by omega
    refine lv_aload_n hx hb dX10_others_34 rfl (lv_at hl 1 rfl) ?_
    refine r_get18 X hw dX10_others_35 ?_
    refine lv_iload hx hb dX10_others_38 (lv_at hl 0 rfl) ?_
    refine r_ald18N (n := ((16 * f) + 7) + q.2) X hw (nadd (a := (16 * f) + 7) (b := q.2) (nadd (a := 16 * f) (b := 7) (nmul (a := 16) (b := f) rfl hf0) rfl) hV.2.2.1) (by omega) dX10_others_40 ?_
    refine lv_goto (tgt := 45) hx hb dX10_others_41 (by decide) ?_
    refine lv_topl (fun w5 ew5 => ?_)
    refine lv_lstore (lv' := [(5, .long w5), (4, .int (((16 * (x.1 22)) + 7) + (x.2.1 19 f))), (0, .ref (L (.inl 0))), (1, .int o), (2, .long a)]) hx hb dX10_others_45 hl (by decide) rfl (fun ls hl => ?_)
    refine lv_iload_n hx hb dX10_others_47 rfl (lv_at hl 3 rfl) ?_
    by_cases c_4 : o.toInt < 26 ∨ 33 < o.toInt
    · refine lv_tableOut (tgt := 268) hx hb dX10_others_48 c_4 (by decide) ?_
      have hoe : o = 34 := Int32.toInt_inj.mp (show o.toInt = 34 by omega)
      rw [hoe, op_34] at hop
      have h1q := (popE hop).1
      refine lv_aload_n hx hb dX10_others_268 rfl (lv_at hl 2 rfl) ?_
      refine lv_lload hx hb dX10_others_269 (lv_at hl 0 rfl) ?_
      refine lv_l2i (v := w5.toInt32) hx hb dX10_others_271 rfl ?_
      refine r_put34 X hw hS dX10_others_272 (fun H locs hw hS => ?_)
      refine lv_bipush (v := 7) hx hb dX10_others_275 (by decide) ?_
      exact m_iret X hr hlk hw hS (Nat.zero_le _) (Nat.zero_le _) ⟨_, 0, rfl, rfl, sS_o (by decide), Or.inr (Or.inr (Or.inr ⟨rfl, CK_S hCK (by decide), hLW, ⟨k, i, hL⟩, (sS_o (by decide)).trans hf0, hf8, TH_S hV.2.2.2.2.1 (by decide)⟩))⟩ dX10_others_277
    · have c_4b : o.toInt = 26 ∨ o.toInt = 27 ∨ o.toInt = 28 ∨ o.toInt = 29 ∨ o.toInt = 30 ∨ o.toInt = 31 ∨ o.toInt = 32 ∨ o.toInt = 33 := by omega
      rcases c_4b with c_4v | c_4v | c_4v | c_4v | c_4v | c_4v | c_4v | c_4v
      · have hoe : o = 26 := Int32.toInt_inj.mp c_4v
        refine lv_tableIn (off := 48) (tgt := 96) hx hb dX10_others_48 (by omega) (by omega) (by rw [c_4v]; rfl) (by decide) ?_
        rw [hoe, op_26] at hop
        obtain ⟨hin, hop⟩ := iteE hop
        have h1q : 1 ≤ q.2 := p_one_lt hin
        refine lv_aload_n hx hb dX10_others_96 rfl (lv_at hl 2 rfl) ?_
        refine lv_lload hx hb dX10_others_97 (lv_at hl 0 rfl) ?_
        have hpre_5 := mvPut (v := w5) hV hop (mvTopA hV h1q ew5)
        refine m_callv (m_runV (i := .inl 0) (ci := 8) (As := [.long w5]) (rest := []) X (k_X10_put Γ l L x w5 f _ hV.1 hV.2.1 hV.2.2.1 hpre_5.1) v_X10_put ml_X10_238 hw hS rfl rfl rfl rfl hl.1 ⟨Nat.le_of_ble_eq_true rfl, Nat.le_of_ble_eq_true rfl⟩ (Nat.le_of_ble_eq_true rfl) ⟨Nat.le_of_ble_eq_true rfl, Nat.le_of_ble_eq_true rfl⟩ dX10_others_99) hS (fun L1 M1 H locs hp_5 hw hS => ?_)
        obtain ⟨e1, e2⟩ := hp_5
        rw [e1, e2] at hw; clear e1 e2
        obtain ⟨-, hV, hq_5⟩ := hpre_5
        generalize r_put x f q.2 w5 = y_5 at hw hV hq_5
        have hmr := hmr.tr hq_5.1
        have hmo := hmo.tr hq_5.2.1
        have hlo : lo x y_5 f := fun p hp => (hq_5.2.2 p hp).trans (hlo p hp)
        refine lv_iconst (v := 0) hx hb dX10_others_102 (by decide) ?_
        exact m_iret X hr hlk hw hS (Nat.zero_le _) (Nat.zero_le _) ⟨_, 0, rfl, rfl, hmr.2.1 29 (by decide), Or.inl ⟨rfl, hmr, hmo, hV, by rw [hoe]; decide⟩⟩ dX10_others_103
      · have hoe : o = 27 := Int32.toInt_inj.mp c_4v
        refine lv_tableIn (off := 56) (tgt := 104) hx hb dX10_others_48 (by omega) (by omega) (by rw [c_4v]; rfl) (by decide) ?_
        rw [hoe, op_27] at hop
        obtain ⟨hin, hop⟩ := iteE hop
        have h1q : 1 ≤ q.2 := p_one_lt hin
        cases hop
        obtain ⟨hVd, hqd⟩ := mvDrop (e := 1) hV h1q
        refine lv_aload_n hx hb dX10_others_104 rfl (lv_at hl 2 rfl) ?_
        refine r_get19 X hw dX10_others_105 ?_
        refine lv_aload_n hx hb dX10_others_108 rfl (lv_at hl 2 rfl) ?_
        refine r_get22 X hw dX10_others_109 ?_
        refine lv_dup2_11 hx hb dX10_others_112 rfl rfl ?_
        refine r_ald19N (n := f) X hw hf0 (by omega) dX10_others_113 ?_
        refine lv_iconst (v := 1) hx hb dX10_others_114 (by decide) ?_
        refine lv_isub hx hb dX10_others_115 ?_
        refine lv_topi (fun v_6 ev_6 => ?_)
        obtain rfl : v_6 = nI (q.2 - 1) := ev_6.trans (nsub (a := q.2) (b := 1) (by omega) hV.2.2.1 rfl)
        clear ev_6
        refine r_ast19N (n := f) X hw hS hf0 (by omega) dX10_others_116 (fun H locs hw hS => ?_)
        generalize sA x 19 f (nI (q.2 - 1)) = y_7 at hw hVd hqd
        have hmr := hqd.1
        have hmo := hqd.2.1
        refine lv_iconst (v := 0) hx hb dX10_others_117 (by decide) ?_
        exact m_iret X hr hlk hw hS (Nat.zero_le _) (Nat.zero_le _) ⟨_, 0, rfl, rfl, hmr.2.1 29 (by decide), Or.inl ⟨rfl, hmr, hmo, hVd, by rw [hoe]; decide⟩⟩ dX10_others_118
      · have hoe : o = 28 := Int32.toInt_inj.mp c_4v
        refine lv_tableIn (off := 71) (tgt := 119) hx hb dX10_others_48 (by omega) (by omega) (by rw [c_4v]; rfl) (by decide) ?_
        rw [hoe, op_28] at hop
        obtain ⟨hin, hop⟩ := iteE hop
        have h1q : 1 ≤ q.2 := p_one_lt hin.1
        have h2q : 1 < q.2 := p_one_lt hin.2
        cases hop
        refine lv_aload_n hx hb dX10_others_119 rfl (lv_at hl 2 rfl) ?_
        refine r_get18 X hw dX10_others_120 ?_
        refine lv_iload hx hb dX10_others_123 (lv_at hl 1 rfl) ?_
        refine lv_aload_n hx hb dX10_others_125 rfl (lv_at hl 2 rfl) ?_
        refine r_get18 X hw dX10_others_126 ?_
        refine lv_iload hx hb dX10_others_129 (lv_at hl 1 rfl) ?_
        refine lv_iconst (v := 1) hx hb dX10_others_131 (by decide) ?_
        refine lv_isub hx hb dX10_others_132 ?_
        refine r_ald18N (n := (((16 * f) + 7) + q.2) - 1) X hw (nsub (a := ((16 * f) + 7) + q.2) (b := 1) (by omega) (nadd (a := (16 * f) + 7) (b := q.2) (nadd (a := 16 * f) (b := 7) (nmul (a := 16) (b := f) rfl hf0) rfl) hV.2.2.1) rfl) (by omega) dX10_others_133 ?_
        refine r_ast18N (n := ((16 * f) + 7) + q.2) X hw hS (nadd (a := (16 * f) + 7) (b := q.2) (nadd (a := 16 * f) (b := 7) (nmul (a := 16) (b := f) rfl hf0) rfl) hV.2.2.1) (by omega) dX10_others_134 (fun H locs hw hS => ?_)
        refine lv_aload_n hx hb dX10_others_135 rfl (lv_at hl 2 rfl) ?_
        refine r_get18 X hw dX10_others_136 ?_
        refine lv_iload hx hb dX10_others_139 (lv_at hl 1 rfl) ?_
        refine lv_iconst (v := 1) hx hb dX10_others_141 (by decide) ?_
        refine lv_isub hx hb dX10_others_142 ?_
        refine lv_lload hx hb dX10_others_143 (lv_at hl 0 rfl) ?_
        refine r_ast18N (n := (((16 * f) + 7) + q.2) - 1) X hw hS (nsub (a := ((16 * f) + 7) + q.2) (b := 1) (by omega) (nadd (a := (16 * f) + 7) (b := q.2) (nadd (a := 16 * f) (b := 7) (nmul (a := 16) (b := f) rfl hf0) rfl) hV.2.2.1) rfl) (by omega) dX10_others_145 (fun H locs hw hS => ?_)
        refine lv_iconst (v := 0) hx hb dX10_others_146 (by decide) ?_
        exact m_iret X hr hlk hw hS (Nat.zero_le _) (Nat.zero_le _) ⟨_, 0, rfl, rfl, rfl, Or.inl ⟨rfl, (mv28 hV h2q ew5 rfl).2.1, (mv28 hV h2q ew5 rfl).2.2, (mv28 hV h2q ew5 rfl).1, by rw [hoe]; decide⟩⟩ dX10_others_147
      · have hoe : o = 29 := Int32.toInt_inj.mp c_4v
        refine lv_tableIn (off := 100) (tgt := 148) hx hb dX10_others_48 (by omega) (by omega) (by rw [c_4v]; rfl) (by decide) ?_
        rw [hoe, op_29] at hop
        obtain ⟨hin, hop⟩ := iteE hop
        cases hop
        have hFT := hld (by rw [hoe]; decide)
        refine lv_aload_n hx hb dX10_others_148 rfl (lv_at hl 2 rfl) ?_
        refine r_get21 X hw dX10_others_149 ?_
        refine lv_aload_n hx hb dX10_others_152 rfl (lv_at hl 2 rfl) ?_
        refine r_get22 X hw dX10_others_153 ?_
        refine lv_lload_n hx hb dX10_others_156 rfl (lv_at hl 4 rfl) ?_
        refine lv_l2i (v := a.toInt32) hx hb dX10_others_157 rfl ?_
        refine r_ast21N (n := f) X hw hS hf0 (by omega) dX10_others_158 (fun H locs hw hS => ?_)
        refine lv_bipush (v := 21) hx hb dX10_others_159 (by decide) ?_
        exact m_iret X hr hlk hw hS (Nat.zero_le _) (Nat.zero_le _) ⟨_, f, rfl, rfl, rfl, Or.inr (Or.inl ⟨rfl, MI_to hCK hLW hL.1 hL.2.2.1 hL.2.2.2.2.2.1 hV hFT⟩)⟩ dX10_others_161
      · have hoe : o = 30 := Int32.toInt_inj.mp c_4v
        refine lv_tableIn (off := 114) (tgt := 162) hx hb dX10_others_48 (by omega) (by omega) (by rw [c_4v]; rfl) (by decide) ?_
        rw [hoe, op_30] at hop
        obtain ⟨hin, hop⟩ := iteE hop
        have h1q := (popE hop).1
        obtain ⟨-, -, hVd, hqd⟩ := mvTake hV hop
        have hFT := hld (by rw [hoe]; decide)
        refine lv_aload_n hx hb dX10_others_162 rfl (lv_at hl 2 rfl) ?_
        refine r_get19 X hw dX10_others_163 ?_
        refine lv_aload_n hx hb dX10_others_166 rfl (lv_at hl 2 rfl) ?_
        refine r_get22 X hw dX10_others_167 ?_
        refine lv_dup2_11 hx hb dX10_others_170 rfl rfl ?_
        refine r_ald19N (n := f) X hw hf0 (by omega) dX10_others_171 ?_
        refine lv_iconst (v := 1) hx hb dX10_others_172 (by decide) ?_
        refine lv_isub hx hb dX10_others_173 ?_
        refine lv_topi (fun v_8 ev_8 => ?_)
        obtain rfl : v_8 = nI (q.2 - 1) := ev_8.trans (nsub (a := q.2) (b := 1) (by omega) hV.2.2.1 rfl)
        clear ev_8
        refine r_ast19N (n := f) X hw hS hf0 (by omega) dX10_others_174 (fun H locs hw hS => ?_)
        generalize sA x 19 f (nI (q.2 - 1)) = y_9 at hw hVd hqd
        have hmr := hqd.1
        have hmo := hqd.2.1
        refine lv_lload hx hb dX10_others_175 (lv_at hl 0 rfl) ?_
        refine lv_iload_n hx hb dX10_others_177 rfl (lv_at hl 3 rfl) ?_
        refine lv_bipush (v := 30) hx hb dX10_others_178 (by decide) ?_
        refine lv_icmp_ne (tgt := 187) hx hb dX10_others_180 (by decide) (fun c => absurd hoe c) (fun _ => ?_)
        refine lv_lconst (v := 0) hx hb dX10_others_183 (by decide) ?_
        refine lv_goto (tgt := 190) hx hb dX10_others_184 (by decide) ?_
        refine m_lcmp_ne (tgt := 208) hx hb dX10_others_190 dX10_others_191 (by decide) (fun c_10 => ?_) (fun c_10 => ?_)
        · skip
          refine lv_iconst (v := 0) hx hb dX10_others_208 (by decide) ?_
          exact m_iret X hr hlk hw hS (Nat.zero_le _) (Nat.zero_le _) ⟨_, 0, rfl, rfl, hmr.2.1 29 (by decide), Or.inl ⟨rfl, hmr, hmo, hVd, by rw [hoe]; decide⟩⟩ dX10_others_209
        · skip
          refine lv_aload_n hx hb dX10_others_194 rfl (lv_at hl 2 rfl) ?_
          refine r_get21 X hw dX10_others_195 ?_
          refine lv_aload_n hx hb dX10_others_198 rfl (lv_at hl 2 rfl) ?_
          refine r_get22 X hw dX10_others_199 ?_
          refine lv_lload_n hx hb dX10_others_202 rfl (lv_at hl 4 rfl) ?_
          refine lv_l2i (v := a.toInt32) hx hb dX10_others_203 rfl ?_
          refine r_ast21N (n := f) X hw hS hVd.1 (by omega) dX10_others_204 (fun H locs hw hS => ?_)
          refine lv_bipush (v := 21) hx hb dX10_others_205 (by decide) ?_
          exact m_iret X hr hlk hw hS (Nat.zero_le _) (Nat.zero_le _) ⟨_, f, rfl, rfl, hmr.2.1 29 (by decide), Or.inr (Or.inl ⟨rfl, MI_to (CK_mr hCK hmr) (LW_lw hLW (lw_mr hmr hmo)) ((congrFun (hmr.1 20 (by decide) (by decide) (by decide) (by decide)) f).trans hL.1) hL.2.2.1 hL.2.2.2.2.2.1 hVd hFT⟩)⟩ dX10_others_207
      · have hoe : o = 31 := Int32.toInt_inj.mp c_4v
        refine lv_tableIn (off := 114) (tgt := 162) hx hb dX10_others_48 (by omega) (by omega) (by rw [c_4v]; rfl) (by decide) ?_
        rw [hoe, op_31] at hop
        obtain ⟨hin, hop⟩ := iteE hop
        have h1q := (popE hop).1
        obtain ⟨-, -, hVd, hqd⟩ := mvTake hV hop
        have hFT := hld (by rw [hoe]; decide)
        refine lv_aload_n hx hb dX10_others_162 rfl (lv_at hl 2 rfl) ?_
        refine r_get19 X hw dX10_others_163 ?_
        refine lv_aload_n hx hb dX10_others_166 rfl (lv_at hl 2 rfl) ?_
        refine r_get22 X hw dX10_others_167 ?_
        refine lv_dup2_11 hx hb dX10_others_170 rfl rfl ?_
        refine r_ald19N (n := f) X hw hf0 (by omega) dX10_others_171 ?_
        refine lv_iconst (v := 1) hx hb dX10_others_172 (by decide) ?_
        refine lv_isub hx hb dX10_others_173 ?_
        refine lv_topi (fun v_11 ev_11 => ?_)
        obtain rfl : v_11 = nI (q.2 - 1) := ev_11.trans (nsub (a := q.2) (b := 1) (by omega) hV.2.2.1 rfl)
        clear ev_11
        refine r_ast19N (n := f) X hw hS hf0 (by omega) dX10_others_174 (fun H locs hw hS => ?_)
        generalize sA x 19 f (nI (q.2 - 1)) = y_12 at hw hVd hqd
        have hmr := hqd.1
        have hmo := hqd.2.1
        refine lv_lload hx hb dX10_others_175 (lv_at hl 0 rfl) ?_
        refine lv_iload_n hx hb dX10_others_177 rfl (lv_at hl 3 rfl) ?_
        refine lv_bipush (v := 30) hx hb dX10_others_178 (by decide) ?_
        refine lv_icmp_ne (tgt := 187) hx hb dX10_others_180 (by decide) (fun _ => ?_) (fun c => absurd (hoe.symm.trans c) (by decide))
        refine lv_ldc2 (v := (-1)) hx hb X.1.2.2.2.1 (X.1.2.2.2.2 _ kl_X10_141) dX10_others_187 ?_
        refine m_lcmp_ne (tgt := 208) hx hb dX10_others_190 dX10_others_191 (by decide) (fun c_13 => ?_) (fun c_13 => ?_)
        · skip
          refine lv_iconst (v := 0) hx hb dX10_others_208 (by decide) ?_
          exact m_iret X hr hlk hw hS (Nat.zero_le _) (Nat.zero_le _) ⟨_, 0, rfl, rfl, hmr.2.1 29 (by decide), Or.inl ⟨rfl, hmr, hmo, hVd, by rw [hoe]; decide⟩⟩ dX10_others_209
        · skip
          refine lv_aload_n hx hb dX10_others_194 rfl (lv_at hl 2 rfl) ?_
          refine r_get21 X hw dX10_others_195 ?_
          refine lv_aload_n hx hb dX10_others_198 rfl (lv_at hl 2 rfl) ?_
          refine r_get22 X hw dX10_others_199 ?_
          refine lv_lload_n hx hb dX10_others_202 rfl (lv_at hl 4 rfl) ?_
          refine lv_l2i (v := a.toInt32) hx hb dX10_others_203 rfl ?_
          refine r_ast21N (n := f) X hw hS hVd.1 (by omega) dX10_others_204 (fun H locs hw hS => ?_)
          refine lv_bipush (v := 21) hx hb dX10_others_205 (by decide) ?_
          exact m_iret X hr hlk hw hS (Nat.zero_le _) (Nat.zero_le _) ⟨_, f, rfl, rfl, hmr.2.1 29 (by decide), Or.inr (Or.inl ⟨rfl, MI_to (CK_mr hCK hmr) (LW_lw hLW (lw_mr hmr hmo)) ((congrFun (hmr.1 20 (by decide) (by decide) (by decide) (by decide)) f).trans hL.1) hL.2.2.1 hL.2.2.2.2.2.1 hVd hFT⟩)⟩ dX10_others_207
      · have hoe : o = 32 := Int32.toInt_inj.mp c_4v
        refine lv_tableIn (off := 162) (tgt := 210) hx hb dX10_others_48 (by omega) (by omega) (by rw [c_4v]; rfl) (by decide) ?_
        rw [hoe, op_32] at hop
        have h1q := (popE hop).1
        by_cases hfz : f = 0
        · skip
          refine lv_aload_n hx hb dX10_others_210 rfl (lv_at hl 2 rfl) ?_
          refine lv_dup hx hb dX10_others_211 rfl ?_
          refine r_get22 X hw dX10_others_212 ?_
          refine lv_iconst (v := 1) hx hb dX10_others_215 (by decide) ?_
          refine lv_isub hx hb dX10_others_216 ?_
          refine lv_topi (fun w7 ew7 => ?_)
          obtain rfl : w7 = -1 := by rw [ew7, hf0, hfz]; rfl
          clear ew7
          refine r_put22 X hw hS dX10_others_217 (fun H locs hw hS => ?_)
          refine lv_aload_n hx hb dX10_others_220 rfl (lv_at hl 2 rfl) ?_
          refine r_get22 X hw dX10_others_221 ?_
          refine lv_if_ge (tgt := 237) hx hb dX10_others_224 (by decide) (fun c => absurd c (by rw [sS_k]; decide)) (fun _ => ?_)
          refine lv_aload_n hx hb dX10_others_227 rfl (lv_at hl 2 rfl) ?_
          refine lv_lload hx hb dX10_others_228 (lv_at hl 0 rfl) ?_
          refine lv_l2i (v := w5.toInt32) hx hb dX10_others_230 rfl ?_
          refine r_put28 X hw hS dX10_others_231 (fun H locs hw hS => ?_)
          refine lv_bipush (v := 20) hx hb dX10_others_234 (by decide) ?_
          exact m_iret X hr hlk hw hS (Nat.zero_le _) (Nat.zero_le _) ⟨_, 0, rfl, rfl, (sS_o (by decide)).trans (sS_o (by decide)), Or.inr (Or.inr (Or.inl ⟨rfl, CK_S (CK_S hCK (by decide)) (by decide)⟩))⟩ dX10_others_236
        · skip
          obtain ⟨f1, hf1⟩ : ∃ f1, f = f1 + 1 := ⟨f - 1, by omega⟩
          refine lv_aload_n hx hb dX10_others_210 rfl (lv_at hl 2 rfl) ?_
          refine lv_dup hx hb dX10_others_211 rfl ?_
          refine r_get22 X hw dX10_others_212 ?_
          refine lv_iconst (v := 1) hx hb dX10_others_215 (by decide) ?_
          refine lv_isub hx hb dX10_others_216 ?_
          refine lv_topi (fun w7 ew7 => ?_)
          obtain rfl : w7 = nI f1 := by rw [ew7]; exact nsub (a := f) (b := 1) (by omega) hf0 rfl |>.trans (by rw [hf1]; rfl)
          clear ew7
          refine r_put22 X hw hS dX10_others_217 (fun H locs hw hS => ?_)
          obtain ⟨k1, i1, hL1, w1, z1, hw1, hw2, hw3, hw4, hw5⟩ := hLW f1 (by omega)
          have hV1 : MV (sS x 22 (nI f1)) f1 mk w1 := ⟨sS_k _ _ _, by omega, hw1, hw2, TH_S hV.2.2.2.2.1 (by decide), hw3⟩
          refine lv_aload_n hx hb dX10_others_220 rfl (lv_at hl 2 rfl) ?_
          refine r_get22 X hw dX10_others_221 ?_
          refine lv_if_ge (tgt := 237) hx hb dX10_others_224 (by decide) (fun _ => ?_) (fun c => absurd (by rw [sS_k]; exact Int32.not_lt.mp (nI_n0 (by omega))) c)
          refine lv_aload_n hx hb dX10_others_237 rfl (lv_at hl 2 rfl) ?_
          refine lv_lload hx hb dX10_others_238 (lv_at hl 0 rfl) ?_
          have hpre := mvPut (v := w5) hV1 hw4 trivial
          refine m_callv (m_runV (i := .inl 0) (ci := 8) (As := [.long w5]) (rest := []) X (k_X10_put Γ l L (sS x 22 (nI f1)) w5 f1 _ hV1.1 hV1.2.1 hV1.2.2.1 hpre.1) v_X10_put ml_X10_238 hw hS rfl rfl rfl rfl hl.1 ⟨Nat.le_of_ble_eq_true rfl, Nat.le_of_ble_eq_true rfl⟩ (Nat.le_of_ble_eq_true rfl) ⟨Nat.le_of_ble_eq_true rfl, Nat.le_of_ble_eq_true rfl⟩ dX10_others_240) hS (fun L1 M1 H locs hp_14 hw hS => ?_)
          obtain ⟨e1, e2⟩ := hp_14
          rw [e1, e2] at hw; clear e1 e2
          obtain ⟨-, hV2, hq2⟩ := hpre
          generalize hgy : r_put (sS x 22 (nI f1)) f1 w1.2 w5 = y_14 at hw hV2 hq2
          clear hgy
          have h21 : y_14.2.1 21 f1 = nI i1 := (congrFun (hq2.1.1 21 (by decide) (by decide) (by decide) (by decide)) f1).trans hL1.2.1
          refine lv_aload_n hx hb dX10_others_243 rfl (lv_at hl 2 rfl) ?_
          refine r_get21 X hw dX10_others_244 ?_
          refine lv_aload_n hx hb dX10_others_247 rfl (lv_at hl 2 rfl) ?_
          refine r_get22 X hw dX10_others_248 ?_
          refine lv_dup2_11 hx hb dX10_others_251 rfl rfl ?_
          refine r_ald21N (n := f1) X hw hV2.1 (by omega) dX10_others_252 ?_
          refine lv_iconst (v := 1) hx hb dX10_others_253 (by decide) ?_
          refine lv_iadd hx hb dX10_others_254 ?_
          refine lv_topi (fun v_15 ev_15 => ?_)
          obtain rfl : v_15 = nI (i1 + 1) := ev_15.trans (nadd (a := i1) (b := 1) h21 rfl)
          clear ev_15
          refine r_ast21N (n := f1) X hw hS hV2.1 (by omega) dX10_others_255 (fun H locs hw hS => ?_)
          refine lv_bipush (v := 21) hx hb dX10_others_256 (by decide) ?_
          exact m_iret X hr hlk hw hS (Nat.zero_le _) (Nat.zero_le _) ⟨_, f1, rfl, rfl, (hq2.1.2.1 29 (by decide)).trans (sS_o (by decide)), Or.inr (Or.inl ⟨rfl, MI_to (CK_mr (CK_S hCK (by decide)) hq2.1) (LW_lw (x := sS x 22 (nI f1)) (fun l9 h9 => hLW l9 (by omega)) (lw_mr hq2.1 hq2.2.1)) ((congrFun (hq2.1.1 20 (by decide) (by decide) (by decide) (by decide)) f1).trans hL1.1) hL1.2.2.1 hL1.2.2.2.2.2.1 hV2 hw5⟩)⟩ dX10_others_258
      · have hoe : o = 33 := Int32.toInt_inj.mp c_4v
        refine lv_tableIn (off := 211) (tgt := 259) hx hb dX10_others_48 (by omega) (by omega) (by rw [c_4v]; rfl) (by decide) ?_
        rw [hoe, op_33] at hop
        obtain ⟨hin, hop⟩ := iteE hop
        obtain ⟨w1, h1, hop⟩ := bindE hop
        obtain ⟨t, htk, hat⟩ := p_isL_nat (by omega) hin
        have hix : a.toInt32.toNatClampNeg = t := by rw [hat, lN_i]; exact nI_clamp (by omega)
        rw [hix] at h1
        have hpq := (p_popsE h1).1
        have hRt := hcall hoe t hat htk
        have hFT := hnx (by rw [hoe]; decide)
        have hrq := (hE k hL.2.2.1).2.1.2.2.2.2.2.1 t (by omega)
        have hl7 := hL.2.2.2.2.2.1
        refine lv_aload_n hx hb dX10_others_259 rfl (lv_at hl 2 rfl) ?_
        refine lv_lload_n hx hb dX10_others_260 rfl (lv_at hl 4 rfl) ?_
        refine lv_l2i (v := a.toInt32) hx hb dX10_others_261 rfl ?_
        refine m_callv (m_runV (i := .inl 0) (ci := 8) (As := [.int a.toInt32]) (rest := []) X (k_X10_calls Γ l L x a.toInt32 f t q.2 (pM E.1 t) ((congrArg Int64.toInt32 hat).trans (lN_i t)) (by omega) hf0 (by omega) hV.2.2.1 hq8 (by rw [hCK.1 1 (by decide)]; exact hrq.1) hpq hrq.2) v_X10_calls ml_X10_317 hw hS rfl rfl rfl rfl hl.1 ⟨Nat.le_of_ble_eq_true rfl, Nat.le_of_ble_eq_true rfl⟩ (Nat.le_of_ble_eq_true rfl) ⟨Nat.le_of_ble_eq_true rfl, Nat.le_of_ble_eq_true rfl⟩ dX10_others_262) hS (fun L1 M1 H locs hp_16 hw hS => ?_)
        obtain ⟨y_16, e1, e2, hcl_16⟩ := hp_16
        rw [e1, e2] at hw; clear e1 e2
        have hMI : MI E y_16 (f + 1) mk := MI_call hE hCK hLW hL hV htk hRt h1 hop hFT hcl_16
        refine lv_bipush (v := 21) hx hb dX10_others_265 (by decide) ?_
        exact m_iret X hr hlk hw hS (Nat.zero_le _) (Nat.zero_le _) ⟨_, f + 1, rfl, rfl, (by rw [hcl_16.1, upd_oth (by decide)]), Or.inr (Or.inl ⟨rfl, hMI⟩)⟩ dX10_others_267
