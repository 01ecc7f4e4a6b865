/-! THE CLASS'S JUDGING, exactly -/
theorem cpy16_at {f g : Nat → Int32} {j : Nat} (h : j < 16) : cpy16 f g j = f j := by
  unfold cpy16
  have e0 : (0 : Int32).toNatClampNeg = 0 := by decide
  have e16 : (16 : Int32).toNatClampNeg = 16 := by decide
  rw [e0, e16, pk_cpy_in (Nat.zero_le _) (by omega)]
  simp
theorem beg_s {g : Nat → Int32} {t : Nat} (h : ∀ i, i < 16 → g i = if i < t then 1 else 0) : ∀ i, i < 16 → upd g t 1 i = if i < t + 1 then 1 else 0 := by
  intro i hi
  by_cases w : i = t
  · rw [w, upd_same, if_pos (by omega)]
  · rw [upd_oth w, h i hi]
    by_cases z : i < t
    · rw [if_pos z, if_pos (by omega)]
    · rw [if_neg z, if_neg (by omega)]
theorem fg_s {y : CS} {t : Nat} (h : ∀ i, i < t → y.1 1 (2 * i) 1 = -1) : ∀ i, i < t + 1 → (tS y 1 (2 * t) 1 (-1)).1 1 (2 * i) 1 = -1 := by
  intro i hi
  by_cases w : i = t
  · rw [w]; exact tS_self
  · rw [tS_rd (by omega)]
    exact h i (by omega)
def c_jn (x : CS) (kn u v d : Nat) : CS := sP x 1 (2 * kn) (jnF (x.2.1 1 (2 * kn + 1)) (x.2.1 u (v + 1)) (8 + d), d)
def c_nw (x : CS) (kn u v : Nat) : CS := tS (tS (tVs x 1 (2 * kn + 1) (cpy16 (x.2.1 u (v + 1)) (x.2.1 1 (2 * kn + 1)))) 1 (2 * kn) 1 (x.1 u v 1)) 0 3 4 1
/-- what arrives: what is answered, what the state is then -/
def ArF (x : CS) (om : Nat) (k : Int32) (u v : Nat) (r : Int32) (c1 : CS) : Prop := (r = 0 ∧ c1 = x ∧ (r_isM om k = false ∨ ∃ kn, kn < om ∧ k = nI kn ∧ ¬ x.1 1 (2 * kn) 1 < 0 ∧ ¬ x.1 1 (2 * kn) 1 = x.1 u v 1)) ∨ (r = 1 ∧ ∃ kn, kn < om ∧ k = nI kn ∧ ((x.1 1 (2 * kn) 1 < 0 ∧ c1 = c_nw x kn u v) ∨ ∃ d, d ≤ 8 ∧ x.1 1 (2 * kn) 1 = nI d ∧ x.1 1 (2 * kn) 1 = x.1 u v 1 ∧ ((jnC (x.2.1 1 (2 * kn + 1)) (x.2.1 u (v + 1)) (8 + d) = false ∧ c1 = c_jn x kn u v d) ∨ (jnC (x.2.1 1 (2 * kn + 1)) (x.2.1 u (v + 1)) (8 + d) = true ∧ c1 = c_jn (tS x 0 3 4 1) kn u v d))))
set_option maxHeartbeats 4000000 in
set_option maxRecDepth 100000 in
theorem k_F6_takeIn (Γ : mG) (l : Launch) (L : mI → Nat) (x : CS) (a b u v : Nat) (h : Nat → Int32) (d : Nat) (G : Nat → Int32)  (hp : pOK x a b) (hp2 : pOK x u v) (hd : d ≤ 8) (hG : x.2.1 u (v + 1) = G) (hne : ¬ (u = a ∧ v + 1 = b + 1)) : mMet Γ l yX6_takeIn cX6_takeIn 5 (some .boolean) { frames := 3, cells := 0, slots := 0, locals := 65 } [.ref (L (nm a b)), .ref (L (nm u v))] L (cM Γ L (sP x a b (h, d))) (mQi Γ (fun r L1 M1 => L1 = L ∧ r = bI (jnC h G (8 + d)) ∧ M1 = cM Γ L (sP x a b (jnF h G (8 + d), d)))) := by
  refine m_start (by decide) (Nat.le_of_ble_eq_true rfl) ?_
  intro p e s m args below meth c A ls X hr hlk hnm hw hS hl
  have hx := X.1.1
  have hb := X.1.2.1
  have hl : lv_has ls 5 [(0, .ref (L (nm a b))), (1, .ref (L (nm u v)))] := hl
  have KL : ∀ (n : Nat) (t : Nat) (j : Int32) (z : Bool) (H : Heap) (locs : List Loc) (ls : Array Slot), t + n = 16 → j = nI t → t ≤ 8 + d → z = jnC h G t → mW Γ.1 vwCl A L (cM Γ L (sP x a b (jnF h G t, d))) H → va_S A s.heap H locs → lv_has ls 5 [(3, .int j), (2, .int (bI z)), (0, .ref (L (nm a b))), (1, .ref (L (nm u v)))] → W p l e { frames := 3, cells := 0, slots := 0, locals := 65 } s m args below meth c H locs 0 0 (MQ below (mQi Γ (fun r L1 M1 => L1 = L ∧ r = bI (jnC h G (8 + d)) ∧ M1 = cM Γ L (sP x a b (jnF h G (8 + d), d))) A) args s 0 0 A) (F0 m 4 ls []) := by
    intro n
    induction n with
    | zero =>
      intro t j z H locs ls f0 f1 f2 f3 hw hS hl
      refine lv_iload_n hx hb dX6_takeIn_4 rfl (lv_at hl 0 rfl) ?_
      refine lv_bipush (v := 16) hx hb dX6_takeIn_5 (by decide) ?_
      refine lv_icmp_ge (tgt := 70) hx hb dX6_takeIn_7 (by decide) (fun c_1 => ?_) (fun c_1 => ?_)
      · skip
        have c_1n : t ≥ 16 := ngeT (a := t) (b := 16) f1 rfl (by omega) (by omega) c_1
        have c_1m : ¬ t < 16 := by omega
        refine lv_iload_n hx hb dX6_takeIn_70 rfl (lv_at hl 1 rfl) ?_
        exact m_zret (b := z) X hr hlk hw hS (Nat.le_of_ble_eq_true rfl) (Nat.le_of_ble_eq_true rfl) rfl ⟨rfl, by rw [f3, show t = 8 + d by first | omega | (have := of_decide_eq_false (show decide (t < 8 + d) = false by assumption); omega)], by rw [show t = 8 + d by first | omega | (have := of_decide_eq_false (show decide (t < 8 + d) = false by assumption); omega)]⟩ dX6_takeIn_71
      · skip
        have c_1n : ¬ t ≥ 16 := ngeF (a := t) (b := 16) f1 rfl (by omega) (by omega) c_1
        have c_1m : t < 16 := by omega
        refine lv_aload_n hx hb dX6_takeIn_10 rfl (lv_at hl 2 rfl) ?_
        refine lv_iload_n hx hb dX6_takeIn_11 rfl (lv_at hl 0 rfl) ?_
        refine m_calli (m_runV (i := nm a b) (ci := 4) (As := [.int j]) (rest := []) X (k_X6_has Γ l L (sP x a b (jnF h G t, d)) a b j hp) v_X6_has ml_X6_29 hw hS (p_obj Γ L (c := sP x a b (jnF h G t, d)) hp) rfl rfl rfl hl.1 ⟨Nat.le_of_ble_eq_true rfl, Nat.le_of_ble_eq_true rfl⟩ (Nat.le_of_ble_eq_true rfl) ⟨Nat.le_of_ble_eq_true rfl, Nat.le_of_ble_eq_true rfl⟩ dX6_takeIn_12) hS (fun r_2 L1 M1 H locs hp_2 hw hS => ?_)
        obtain ⟨e0, e1, e2⟩ := hp_2
        rw [sP_dep, f1, has_nI (by omega) (by omega)] at e0
        subst e0; rw [e1, e2] at hw; clear e1 e2
        refine lv_if_eq (tgt := 70) hx hb dX6_takeIn_15 (by decide) (fun c_3 => ?_) (fun c_3 => ?_)
        · skip
          have c_3 := bI_f c_3
          refine lv_iload_n hx hb dX6_takeIn_70 rfl (lv_at hl 1 rfl) ?_
          exact m_zret (b := z) X hr hlk hw hS (Nat.le_of_ble_eq_true rfl) (Nat.le_of_ble_eq_true rfl) rfl ⟨rfl, by rw [f3, show t = 8 + d by first | omega | (have := of_decide_eq_false (show decide (t < 8 + d) = false by assumption); omega)], by rw [show t = 8 + d by first | omega | (have := of_decide_eq_false (show decide (t < 8 + d) = false by assumption); omega)]⟩ dX6_takeIn_71
        · skip
          have c_3 := bI_t c_3
          refine lv_aload_n hx hb dX6_takeIn_18 rfl (lv_at hl 2 rfl) ?_
          refine p_getk X hw hp fl_X6_9 rfl dX6_takeIn_19 ?_
          refine lv_iload_n hx hb dX6_takeIn_22 rfl (lv_at hl 0 rfl) ?_
          refine p_ald (n := t) X hw hp f1 (by omega) dX6_takeIn_23 ?_
          refine lv_aload_n hx hb dX6_takeIn_24 rfl (lv_at hl 3 rfl) ?_
          refine q_getk X hw hp2 fl_X6_9 rfl dX6_takeIn_25 ?_
          refine lv_iload_n hx hb dX6_takeIn_28 rfl (lv_at hl 0 rfl) ?_
          refine q_ald (n := t) X hw hp2 f1 (by omega) dX6_takeIn_29 ?_
          refine m_calli (m_runS (As := [.int ((jnF h G t) t), .int ((sP x a b (jnF h G t, d)).2.1 u (v + 1) t)]) (rest := []) X (k_X3_joinOf Γ l L (cM Γ L (sP x a b (jnF h G t, d))) ((jnF h G t) t) ((sP x a b (jnF h G t, d)).2.1 u (v + 1) t)) s_X3_joinOf ml_X6_44 hw hS rfl hl.1 ⟨Nat.le_of_ble_eq_true rfl, Nat.le_of_ble_eq_true rfl⟩ (Nat.le_of_ble_eq_true rfl) ⟨Nat.le_of_ble_eq_true rfl, Nat.le_of_ble_eq_true rfl⟩ dX6_takeIn_30) hS (fun r_4 L1 M1 H locs hp_4 hw hS => ?_)
          obtain ⟨rfl, e1, e2⟩ := hp_4
          rw [e1, e2] at hw; clear e1 e2
          have ej_4 : k_join ((jnF h G t) t) ((sP x a b (jnF h G t, d)).2.1 u (v + 1) t) = k_join (h t) (G t) := by rw [jnF_at]; exact congrArg (k_join (h t)) ((congrFun (up3_ne hne) t).trans (congrFun hG t))
          rw [ej_4]
          refine lv_istore (lv' := [(4, .int (k_join (h t) (G t))), (3, .int j), (2, .int (bI z)), (0, .ref (L (nm a b))), (1, .ref (L (nm u v)))]) hx hb dX6_takeIn_33 hl (by decide) rfl (fun ls hl => ?_)
          refine lv_iload_n hx hb dX6_takeIn_35 rfl (lv_at hl 2 rfl) ?_
          refine lv_if_ne (tgt := 50) hx hb dX6_takeIn_36 (by decide) (fun c_5 => ?_) (fun c_5 => ?_)
          · skip
            have c_5 := bI_t c_5
            refine lv_iconst (v := 1) hx hb dX6_takeIn_50 (by decide) ?_
            refine lv_goto (tgt := 55) hx hb dX6_takeIn_51 (by decide) ?_
            refine lv_istore_n (lv' := [(2, .int 1), (4, .int (k_join (h t) (G t))), (3, .int j), (0, .ref (L (nm a b))), (1, .ref (L (nm u v)))]) hx hb dX6_takeIn_55 rfl hl (by decide) rfl (fun ls hl => ?_)
            refine lv_aload_n hx hb dX6_takeIn_56 rfl (lv_at hl 3 rfl) ?_
            refine p_getk X hw hp fl_X6_9 rfl dX6_takeIn_57 ?_
            refine lv_iload_n hx hb dX6_takeIn_60 rfl (lv_at hl 2 rfl) ?_
            refine lv_iload hx hb dX6_takeIn_61 (lv_at hl 1 rfl) ?_
            refine p_ast (n := t) (v := k_join (h t) (G t)) X hw hp hS f1 (by omega) dX6_takeIn_63 (fun H locs hw hS => ?_)
            refine lv_iinc (v := j + 1) (lv' := [(3, .int (j + 1)), (2, .int 1), (4, .int (k_join (h t) (G t))), (0, .ref (L (nm a b))), (1, .ref (L (nm u v)))]) hx hb dX6_takeIn_64 hl (k := 2) rfl rfl (by decide) rfl (fun ls hl => ?_)
            refine lv_goto (tgt := 4) hx hb dX6_takeIn_67 (by decide) ?_
            exact (by omega : False).elim
          · skip
            have c_5 := bI_f c_5
            refine lv_iload hx hb dX6_takeIn_39 (lv_at hl 0 rfl) ?_
            refine lv_aload_n hx hb dX6_takeIn_41 rfl (lv_at hl 3 rfl) ?_
            refine p_getk X hw hp fl_X6_9 rfl dX6_takeIn_42 ?_
            refine lv_iload_n hx hb dX6_takeIn_45 rfl (lv_at hl 1 rfl) ?_
            refine p_ald (n := t) X hw hp f1 (by omega) dX6_takeIn_46 ?_
            refine lv_icmp_eq (tgt := 54) hx hb dX6_takeIn_47 (by decide) (fun c_6 => ?_) (fun c_6 => ?_)
            · skip
              refine lv_iconst (v := 0) hx hb dX6_takeIn_54 (by decide) ?_
              refine lv_istore_n (lv' := [(2, .int 0), (4, .int (k_join (h t) (G t))), (3, .int j), (0, .ref (L (nm a b))), (1, .ref (L (nm u v)))]) hx hb dX6_takeIn_55 rfl hl (by decide) rfl (fun ls hl => ?_)
              refine lv_aload_n hx hb dX6_takeIn_56 rfl (lv_at hl 3 rfl) ?_
              refine p_getk X hw hp fl_X6_9 rfl dX6_takeIn_57 ?_
              refine lv_iload_n hx hb dX6_takeIn_60 rfl (lv_at hl 2 rfl) ?_
              refine lv_iload hx hb dX6_takeIn_61 (lv_at hl 1 rfl) ?_
              refine p_ast (n := t) (v := k_join (h t) (G t)) X hw hp hS f1 (by omega) dX6_takeIn_63 (fun H locs hw hS => ?_)
              refine lv_iinc (v := j + 1) (lv' := [(3, .int (j + 1)), (2, .int 0), (4, .int (k_join (h t) (G t))), (0, .ref (L (nm a b))), (1, .ref (L (nm u v)))]) hx hb dX6_takeIn_64 hl (k := 2) rfl rfl (by decide) rfl (fun ls hl => ?_)
              refine lv_goto (tgt := 4) hx hb dX6_takeIn_67 (by decide) ?_
              exact (by omega : False).elim
            · skip
              refine lv_iconst (v := 1) hx hb dX6_takeIn_50 (by decide) ?_
              refine lv_goto (tgt := 55) hx hb dX6_takeIn_51 (by decide) ?_
              refine lv_istore_n (lv' := [(2, .int 1), (4, .int (k_join (h t) (G t))), (3, .int j), (0, .ref (L (nm a b))), (1, .ref (L (nm u v)))]) hx hb dX6_takeIn_55 rfl hl (by decide) rfl (fun ls hl => ?_)
              refine lv_aload_n hx hb dX6_takeIn_56 rfl (lv_at hl 3 rfl) ?_
              refine p_getk X hw hp fl_X6_9 rfl dX6_takeIn_57 ?_
              refine lv_iload_n hx hb dX6_takeIn_60 rfl (lv_at hl 2 rfl) ?_
              refine lv_iload hx hb dX6_takeIn_61 (lv_at hl 1 rfl) ?_
              refine p_ast (n := t) (v := k_join (h t) (G t)) X hw hp hS f1 (by omega) dX6_takeIn_63 (fun H locs hw hS => ?_)
              refine lv_iinc (v := j + 1) (lv' := [(3, .int (j + 1)), (2, .int 1), (4, .int (k_join (h t) (G t))), (0, .ref (L (nm a b))), (1, .ref (L (nm u v)))]) hx hb dX6_takeIn_64 hl (k := 2) rfl rfl (by decide) rfl (fun ls hl => ?_)
              refine lv_goto (tgt := 4) hx hb dX6_takeIn_67 (by decide) ?_
              exact (by omega : False).elim
    | succ n ih =>
      intro t j z H locs ls f0 f1 f2 f3 hw hS hl
      refine lv_iload_n hx hb dX6_takeIn_4 rfl (lv_at hl 0 rfl) ?_
      refine lv_bipush (v := 16) hx hb dX6_takeIn_5 (by decide) ?_
      refine lv_icmp_ge (tgt := 70) hx hb dX6_takeIn_7 (by decide) (fun c_7 => ?_) (fun c_7 => ?_)
      · skip
        have c_7n : t ≥ 16 := ngeT (a := t) (b := 16) f1 rfl (by omega) (by omega) c_7
        have c_7m : ¬ t < 16 := by omega
        refine lv_iload_n hx hb dX6_takeIn_70 rfl (lv_at hl 1 rfl) ?_
        exact m_zret (b := z) X hr hlk hw hS (Nat.le_of_ble_eq_true rfl) (Nat.le_of_ble_eq_true rfl) rfl ⟨rfl, by rw [f3, show t = 8 + d by first | omega | (have := of_decide_eq_false (show decide (t < 8 + d) = false by assumption); omega)], by rw [show t = 8 + d by first | omega | (have := of_decide_eq_false (show decide (t < 8 + d) = false by assumption); omega)]⟩ dX6_takeIn_71
      · skip
        have c_7n : ¬ t ≥ 16 := ngeF (a := t) (b := 16) f1 rfl (by omega) (by omega) c_7
        have c_7m : t < 16 := by omega
        refine lv_aload_n hx hb dX6_takeIn_10 rfl (lv_at hl 2 rfl) ?_
        refine lv_iload_n hx hb dX6_takeIn_11 rfl (lv_at hl 0 rfl) ?_
        refine m_calli (m_runV (i := nm a b) (ci := 4) (As := [.int j]) (rest := []) X (k_X6_has Γ l L (sP x a b (jnF h G t, d)) a b j hp) v_X6_has ml_X6_29 hw hS (p_obj Γ L (c := sP x a b (jnF h G t, d)) hp) rfl rfl rfl hl.1 ⟨Nat.le_of_ble_eq_true rfl, Nat.le_of_ble_eq_true rfl⟩ (Nat.le_of_ble_eq_true rfl) ⟨Nat.le_of_ble_eq_true rfl, Nat.le_of_ble_eq_true rfl⟩ dX6_takeIn_12) hS (fun r_8 L1 M1 H locs hp_8 hw hS => ?_)
        obtain ⟨e0, e1, e2⟩ := hp_8
        rw [sP_dep, f1, has_nI (by omega) (by omega)] at e0
        subst e0; rw [e1, e2] at hw; clear e1 e2
        refine lv_if_eq (tgt := 70) hx hb dX6_takeIn_15 (by decide) (fun c_9 => ?_) (fun c_9 => ?_)
        · skip
          have c_9 := bI_f c_9
          refine lv_iload_n hx hb dX6_takeIn_70 rfl (lv_at hl 1 rfl) ?_
          exact m_zret (b := z) X hr hlk hw hS (Nat.le_of_ble_eq_true rfl) (Nat.le_of_ble_eq_true rfl) rfl ⟨rfl, by rw [f3, show t = 8 + d by first | omega | (have := of_decide_eq_false (show decide (t < 8 + d) = false by assumption); omega)], by rw [show t = 8 + d by first | omega | (have := of_decide_eq_false (show decide (t < 8 + d) = false by assumption); omega)]⟩ dX6_takeIn_71
        · skip
          have c_9 := bI_t c_9
          refine lv_aload_n hx hb dX6_takeIn_18 rfl (lv_at hl 2 rfl) ?_
          refine p_getk X hw hp fl_X6_9 rfl dX6_takeIn_19 ?_
          refine lv_iload_n hx hb dX6_takeIn_22 rfl (lv_at hl 0 rfl) ?_
          refine p_ald (n := t) X hw hp f1 (by omega) dX6_takeIn_23 ?_
          refine lv_aload_n hx hb dX6_takeIn_24 rfl (lv_at hl 3 rfl) ?_
          refine q_getk X hw hp2 fl_X6_9 rfl dX6_takeIn_25 ?_
          refine lv_iload_n hx hb dX6_takeIn_28 rfl (lv_at hl 0 rfl) ?_
          refine q_ald (n := t) X hw hp2 f1 (by omega) dX6_takeIn_29 ?_
          refine m_calli (m_runS (As := [.int ((jnF h G t) t), .int ((sP x a b (jnF h G t, d)).2.1 u (v + 1) t)]) (rest := []) X (k_X3_joinOf Γ l L (cM Γ L (sP x a b (jnF h G t, d))) ((jnF h G t) t) ((sP x a b (jnF h G t, d)).2.1 u (v + 1) t)) s_X3_joinOf ml_X6_44 hw hS rfl hl.1 ⟨Nat.le_of_ble_eq_true rfl, Nat.le_of_ble_eq_true rfl⟩ (Nat.le_of_ble_eq_true rfl) ⟨Nat.le_of_ble_eq_true rfl, Nat.le_of_ble_eq_true rfl⟩ dX6_takeIn_30) hS (fun r_10 L1 M1 H locs hp_10 hw hS => ?_)
          obtain ⟨rfl, e1, e2⟩ := hp_10
          rw [e1, e2] at hw; clear e1 e2
          have ej_10 : k_join ((jnF h G t) t) ((sP x a b (jnF h G t, d)).2.1 u (v + 1) t) = k_join (h t) (G t) := by rw [jnF_at]; exact congrArg (k_join (h t)) ((congrFun (up3_ne hne) t).trans (congrFun hG t))
          rw [ej_10]
          refine lv_istore (lv' := [(4, .int (k_join (h t) (G t))), (3, .int j), (2, .int (bI z)), (0, .ref (L (nm a b))), (1, .ref (L (nm u v)))]) hx hb dX6_takeIn_33 hl (by decide) rfl (fun ls hl => ?_)
          refine lv_iload_n hx hb dX6_takeIn_35 rfl (lv_at hl 2 rfl) ?_
          refine lv_if_ne (tgt := 50) hx hb dX6_takeIn_36 (by decide) (fun c_11 => ?_) (fun c_11 => ?_)
          · skip
            have c_11 := bI_t c_11
            refine lv_iconst (v := 1) hx hb dX6_takeIn_50 (by decide) ?_
            refine lv_goto (tgt := 55) hx hb dX6_takeIn_51 (by decide) ?_
            refine lv_istore_n (lv' := [(2, .int 1), (4, .int (k_join (h t) (G t))), (3, .int j), (0, .ref (L (nm a b))), (1, .ref (L (nm u v)))]) hx hb dX6_takeIn_55 rfl hl (by decide) rfl (fun ls hl => ?_)
            refine lv_aload_n hx hb dX6_takeIn_56 rfl (lv_at hl 3 rfl) ?_
            refine p_getk X hw hp fl_X6_9 rfl dX6_takeIn_57 ?_
            refine lv_iload_n hx hb dX6_takeIn_60 rfl (lv_at hl 2 rfl) ?_
            refine lv_iload hx hb dX6_takeIn_61 (lv_at hl 1 rfl) ?_
            refine p_ast (n := t) (v := k_join (h t) (G t)) X hw hp hS f1 (by omega) dX6_takeIn_63 (fun H locs hw hS => ?_)
            refine lv_iinc (v := j + 1) (lv' := [(3, .int (j + 1)), (2, .int 1), (4, .int (k_join (h t) (G t))), (0, .ref (L (nm a b))), (1, .ref (L (nm u v)))]) hx hb dX6_takeIn_64 hl (k := 2) rfl rfl (by decide) rfl (fun ls hl => ?_)
            refine lv_goto (tgt := 4) hx hb dX6_takeIn_67 (by decide) ?_
            rw [jnF_s] at hw; exact ih (t + 1) _ true _ _ ls (by omega) (nadd (a := t) (b := 1) f1 rfl) (by first | omega | (have := of_decide_eq_true (show decide (t < 8 + d) = true by assumption); omega)) (by show true = (jnC h G t || !decide (k_join (h t) (G t) = h t)); first | (rw [← f3, show z = true by assumption]; rfl) | (rw [decide_eq_false (fun z8 => (show ¬ k_join (h t) (G t) = jnF h G t t by assumption) (z8.trans (jnF_at h G t).symm))]; simp)) hw hS (lv_sub hl [0, 1, 3, 4] rfl)
          · skip
            have c_11 := bI_f c_11
            refine lv_iload hx hb dX6_takeIn_39 (lv_at hl 0 rfl) ?_
            refine lv_aload_n hx hb dX6_takeIn_41 rfl (lv_at hl 3 rfl) ?_
            refine p_getk X hw hp fl_X6_9 rfl dX6_takeIn_42 ?_
            refine lv_iload_n hx hb dX6_takeIn_45 rfl (lv_at hl 1 rfl) ?_
            refine p_ald (n := t) X hw hp f1 (by omega) dX6_takeIn_46 ?_
            refine lv_icmp_eq (tgt := 54) hx hb dX6_takeIn_47 (by decide) (fun c_12 => ?_) (fun c_12 => ?_)
            · skip
              refine lv_iconst (v := 0) hx hb dX6_takeIn_54 (by decide) ?_
              refine lv_istore_n (lv' := [(2, .int 0), (4, .int (k_join (h t) (G t))), (3, .int j), (0, .ref (L (nm a b))), (1, .ref (L (nm u v)))]) hx hb dX6_takeIn_55 rfl hl (by decide) rfl (fun ls hl => ?_)
              refine lv_aload_n hx hb dX6_takeIn_56 rfl (lv_at hl 3 rfl) ?_
              refine p_getk X hw hp fl_X6_9 rfl dX6_takeIn_57 ?_
              refine lv_iload_n hx hb dX6_takeIn_60 rfl (lv_at hl 2 rfl) ?_
              refine lv_iload hx hb dX6_takeIn_61 (lv_at hl 1 rfl) ?_
              refine p_ast (n := t) (v := k_join (h t) (G t)) X hw hp hS f1 (by omega) dX6_takeIn_63 (fun H locs hw hS => ?_)
              refine lv_iinc (v := j + 1) (lv' := [(3, .int (j + 1)), (2, .int 0), (4, .int (k_join (h t) (G t))), (0, .ref (L (nm a b))), (1, .ref (L (nm u v)))]) hx hb dX6_takeIn_64 hl (k := 2) rfl rfl (by decide) rfl (fun ls hl => ?_)
              refine lv_goto (tgt := 4) hx hb dX6_takeIn_67 (by decide) ?_
              rw [jnF_s] at hw; exact ih (t + 1) _ false _ _ ls (by omega) (nadd (a := t) (b := 1) f1 rfl) (by first | omega | (have := of_decide_eq_true (show decide (t < 8 + d) = true by assumption); omega)) (by show false = (jnC h G t || !decide (k_join (h t) (G t) = h t)); rw [← f3, show z = false by assumption, decide_eq_true ((show k_join (h t) (G t) = jnF h G t t by assumption).trans (jnF_at h G t))]; rfl) hw hS (lv_sub hl [0, 1, 3, 4] rfl)
            · skip
              refine lv_iconst (v := 1) hx hb dX6_takeIn_50 (by decide) ?_
              refine lv_goto (tgt := 55) hx hb dX6_takeIn_51 (by decide) ?_
              refine lv_istore_n (lv' := [(2, .int 1), (4, .int (k_join (h t) (G t))), (3, .int j), (0, .ref (L (nm a b))), (1, .ref (L (nm u v)))]) hx hb dX6_takeIn_55 rfl hl (by decide) rfl (fun ls hl => ?_)
              refine lv_aload_n hx hb dX6_takeIn_56 rfl (lv_at hl 3 rfl) ?_
              refine p_getk X hw hp fl_X6_9 rfl dX6_takeIn_57 ?_
              refine lv_iload_n hx hb dX6_takeIn_60 rfl (lv_at hl 2 rfl) ?_
              refine lv_iload hx hb dX6_takeIn_61 (lv_at hl 1 rfl) ?_
              refine p_ast (n := t) (v := k_join (h t) (G t)) X hw hp hS f1 (by omega) dX6_takeIn_63 (fun H locs hw hS => ?_)
              refine lv_iinc (v := j + 1) (lv' := [(3, .int (j + 1)), (2, .int 1), (4, .int (k_join (h t) (G t))), (0, .ref (L (nm a b))), (1, .ref (L (nm u v)))]) hx hb dX6_takeIn_64 hl (k := 2) rfl rfl (by decide) rfl (fun ls hl => ?_)
              refine lv_goto (tgt := 4) hx hb dX6_takeIn_67 (by decide) ?_
              rw [jnF_s] at hw; exact ih (t + 1) _ true _ _ ls (by omega) (nadd (a := t) (b := 1) f1 rfl) (by first | omega | (have := of_decide_eq_true (show decide (t < 8 + d) = true by assumption); omega)) (by show true = (jnC h G t || !decide (k_join (h t) (G t) = h t)); first | (rw [← f3, show z = true by assumption]; rfl) | (rw [decide_eq_false (fun z8 => (show ¬ k_join (h t) (G t) = jnF h G t t by assumption) (z8.trans (jnF_at h G t).symm))]; simp)) hw hS (lv_sub hl [0, 1, 3, 4] rfl)
  refine lv_iconst (v := 0) hx hb dX6_takeIn_0 (by decide) ?_
  refine lv_istore_n (lv' := [(2, .int 0), (0, .ref (L (nm a b))), (1, .ref (L (nm u v)))]) hx hb dX6_takeIn_1 rfl hl (by decide) rfl (fun ls hl => ?_)
  refine lv_iconst (v := 0) hx hb dX6_takeIn_2 (by decide) ?_
  refine lv_istore_n (lv' := [(3, .int 0), (2, .int 0), (0, .ref (L (nm a b))), (1, .ref (L (nm u v)))]) hx hb dX6_takeIn_3 rfl hl (by decide) rfl (fun ls hl => ?_)
  exact KL 16 0 _ false _ _ ls rfl rfl (by omega) rfl (by rw [jnF_0]; exact hw) hS (lv_sub hl [0, 1, 2, 3] rfl)
set_option maxHeartbeats 4000000 in
set_option maxRecDepth 100000 in
theorem k_F6_becomeCaught (Γ : mG) (l : Launch) (L : mI → Nat) (x : CS) (a b u v : Nat)  (hp : pOK x a b) (hp2 : pOK x u v) : mMet Γ l yX6_becomeCaught cX6_becomeCaught 2 none { frames := 2, cells := 0, slots := 0, locals := 41 } [.ref (L (nm a b)), .ref (L (nm u v))] L (cM Γ L x) (mQv Γ (fun L1 M1 => L1 = L ∧ ∃ g : Nat → Int32, M1 = cM Γ L (sP x a b (g, 1)) ∧ (∀ j, j < 8 → g j = x.2.1 u (v + 1) j) ∧ g 8 = 1)) := by
  refine m_start (by decide) (Nat.le_of_ble_eq_true rfl) ?_
  intro p e s m args below meth c A ls X hr hlk hnm hw hS hl
  have hx := X.1.1
  have hb := X.1.2.1
  have hl : lv_has ls 2 [(0, .ref (L (nm a b))), (1, .ref (L (nm u v)))] := hl
  refine lv_aload_n hx hb dX6_becomeCaught_0 rfl (lv_at hl 0 rfl) ?_
  refine lv_aload_n hx hb dX6_becomeCaught_1 rfl (lv_at hl 1 rfl) ?_
  refine m_callv (m_runV (i := nm a b) (ci := 4) (As := [.ref (L (nm u v))]) (rest := []) X (k_X6_copyFrom Γ l L x a b u v hp hp2) v_X6_copyFrom ml_X6_33 hw hS (p_obj Γ L (c := x) hp) rfl rfl rfl hl.1 ⟨Nat.le_of_ble_eq_true rfl, Nat.le_of_ble_eq_true rfl⟩ (Nat.le_of_ble_eq_true rfl) ⟨Nat.le_of_ble_eq_true rfl, Nat.le_of_ble_eq_true rfl⟩ dX6_becomeCaught_2) hS (fun L1 M1 H locs hp_1 hw hS => ?_)
  obtain ⟨e1, e2⟩ := hp_1
  rw [e1, e2] at hw; clear e1 e2
  obtain ⟨g_1, eg_1⟩ : ∃ gz : Nat → Int32, gz = cpy16 (x.2.1 u (v + 1)) (x.2.1 a (b + 1)) := ⟨_, rfl⟩
  rw [← eg_1] at hw
  refine lv_aload_n hx hb dX6_becomeCaught_5 rfl (lv_at hl 0 rfl) ?_
  refine lv_iconst (v := 0) hx hb dX6_becomeCaught_6 (by decide) ?_
  refine q_putd X hw hp hS fl_X6_13 rfl dX6_becomeCaught_7 (fun H locs hw hS => ?_)
  rw [tS_tS] at hw
  have hw : mW Γ.1 vwCl A L (cM Γ L (sP x a b (g_1, 0))) H := hw
  refine lv_aload_n hx hb dX6_becomeCaught_10 rfl (lv_at hl 0 rfl) ?_
  refine lv_iconst (v := 1) hx hb dX6_becomeCaught_11 (by decide) ?_
  refine m_calli (m_runV (i := nm a b) (ci := 4) (As := [.int 1]) (rest := []) X (k_F6_push Γ l L x a b g_1 0 1 hp (by omega)) v_X6_push ml_X6_37 hw hS (p_obj Γ L (c := sP x a b (g_1, 0)) hp) rfl rfl rfl hl.1 ⟨Nat.le_of_ble_eq_true rfl, Nat.le_of_ble_eq_true rfl⟩ (Nat.le_of_ble_eq_true rfl) ⟨Nat.le_of_ble_eq_true rfl, Nat.le_of_ble_eq_true rfl⟩ dX6_becomeCaught_12) hS (fun r_2 L1 M1 H locs hp_2 hw hS => ?_)
  obtain ⟨⟨h_2, d_2⟩, hd_2, e1, e2, hm_2⟩ := hp_2
  have hd_2 : d_2 ≤ 8 := hd_2
  rw [e1, e2] at hw; clear e1 e2
  have hm_2 : mFo (p_push (g_1, 0) 1) r_2 (h_2, d_2) := hm_2
  cases ho_2 : p_push (g_1, 0) 1 with
  | none =>
    rw [ho_2] at hm_2
    have hm_2 : r_2 = 0 := hm_2
    subst hm_2
    refine lv_pop hx hb dX6_becomeCaught_15 rfl ?_
    exact absurd ho_2 (by rw [push_s (by omega)]; exact fun z9 => by cases z9)
  | some z_2 =>
    rw [ho_2] at hm_2
    have hm_2 : r_2 = 1 ∧ (h_2, d_2) = z_2 := hm_2
    obtain ⟨e3, e4⟩ := hm_2
    subst e3; subst e4
    refine lv_pop hx hb dX6_becomeCaught_15 rfl ?_
    have e9 : (h_2, d_2) = (upd g_1 (8 + 0) 1, 0 + 1) := by rw [push_s (by omega)] at ho_2; cases ho_2; rfl
    exact m_vret X hr hlk hw hS (Nat.le_of_ble_eq_true rfl) (Nat.le_of_ble_eq_true rfl) ⟨rfl, upd g_1 8 1, by rw [e9], fun j hj => by rw [upd_oth (by omega), eg_1, cpy16_at (by omega)], upd_same⟩ dX6_becomeCaught_16
set_option maxHeartbeats 4000000 in
set_option maxRecDepth 100000 in
theorem k_F6_begin (Γ : mG) (l : Launch) (L : mI → Nat) (x : CS) (a b pm : Nat) (v : Int32) (hp : pOK x a b) (ev : v = nI pm) (hpm : pm ≤ 4) : mMet Γ l yX6_begin cX6_begin 3 none { frames := 1, cells := 0, slots := 0, locals := 22 } [.ref (L (nm a b)), .int v] L (cM Γ L x) (mQv Γ (fun L1 M1 => ∃ g : Nat → Int32, L1 = L ∧ M1 = cM Γ L (sP x a b (g, 0)) ∧ ∀ i, i < 16 → g i = if i < pm then 1 else 0)) := by
  refine m_start (by decide) (Nat.le_of_ble_eq_true rfl) ?_
  intro p e s m args below meth c A ls X hr hlk hnm hw hS hl
  have hx := X.1.1
  have hb := X.1.2.1
  have hl : lv_has ls 3 [(0, .ref (L (nm a b))), (1, .int v)] := hl
  have KL : ∀ (n : Nat) (t : Nat) (j : Int32) (g : Nat → Int32) (H : Heap) (locs : List Loc) (ls : Array Slot), t + n = 8 → j = nI t → t ≤ pm → (∀ i, i < 16 → g i = if i < t then 1 else 0) → mW Γ.1 vwCl A L (cM Γ L (sP x a b (g, 0))) H → va_S A s.heap H locs → lv_has ls 3 [(2, .int j), (0, .ref (L (nm a b))), (1, .int v)] → W p l e { frames := 1, cells := 0, slots := 0, locals := 22 } s m args below meth c H locs 0 0 (MQ below (mQv Γ (fun L1 M1 => ∃ g : Nat → Int32, L1 = L ∧ M1 = cM Γ L (sP x a b (g, 0)) ∧ ∀ i, i < 16 → g i = if i < pm then 1 else 0) A) args s 0 0 A) (F0 m 7 ls []) := by
    intro n
    induction n with
    | zero =>
      intro t j g H locs ls f0 f1 f2 f3 hw hS hl
      refine lv_iload_n hx hb dX6_begin_7 rfl (lv_at hl 0 rfl) ?_
      refine lv_iload_n hx hb dX6_begin_8 rfl (lv_at hl 2 rfl) ?_
      refine lv_icmp_ge (tgt := 31) hx hb dX6_begin_9 (by decide) (fun c_1 => ?_) (fun c_1 => ?_)
      · skip
        have c_1n : t ≥ pm := ngeT (a := t) (b := pm) f1 ev (by omega) (by omega) c_1
        have c_1m : ¬ t < pm := by omega
        exact m_vret X hr hlk hw hS (Nat.le_of_ble_eq_true rfl) (Nat.le_of_ble_eq_true rfl) ⟨g, rfl, rfl, fun i9 h9 => by rw [f3 i9 h9, show t = pm by omega]⟩ dX6_begin_31
      · skip
        have c_1n : ¬ t ≥ pm := ngeF (a := t) (b := pm) f1 ev (by omega) (by omega) c_1
        have c_1m : t < pm := by omega
        refine lv_iload_n hx hb dX6_begin_12 rfl (lv_at hl 0 rfl) ?_
        refine lv_bipush (v := 8) hx hb dX6_begin_13 (by decide) ?_
        refine lv_icmp_ge (tgt := 31) hx hb dX6_begin_15 (by decide) (fun c_2 => ?_) (fun c_2 => ?_)
        · skip
          have c_2n : t ≥ 8 := ngeT (a := t) (b := 8) f1 rfl (by omega) (by omega) c_2
          have c_2m : ¬ t < 8 := by omega
          exact m_vret X hr hlk hw hS (Nat.le_of_ble_eq_true rfl) (Nat.le_of_ble_eq_true rfl) ⟨g, rfl, rfl, fun i9 h9 => by rw [f3 i9 h9, show t = pm by omega]⟩ dX6_begin_31
        · skip
          have c_2n : ¬ t ≥ 8 := ngeF (a := t) (b := 8) f1 rfl (by omega) (by omega) c_2
          have c_2m : t < 8 := by omega
          refine lv_aload_n hx hb dX6_begin_18 rfl (lv_at hl 1 rfl) ?_
          refine p_getk X hw hp fl_X6_9 rfl dX6_begin_19 ?_
          refine lv_iload_n hx hb dX6_begin_22 rfl (lv_at hl 0 rfl) ?_
          refine lv_iconst (v := 1) hx hb dX6_begin_23 (by decide) ?_
          refine p_ast (n := t) (v := 1) X hw hp hS f1 (by omega) dX6_begin_24 (fun H locs hw hS => ?_)
          refine lv_iinc (v := j + 1) (lv' := [(2, .int (j + 1)), (0, .ref (L (nm a b))), (1, .int v)]) hx hb dX6_begin_25 hl (k := 0) rfl rfl (by decide) rfl (fun ls hl => ?_)
          refine lv_goto (tgt := 7) hx hb dX6_begin_28 (by decide) ?_
          exact (by omega : False).elim
    | succ n ih =>
      intro t j g H locs ls f0 f1 f2 f3 hw hS hl
      refine lv_iload_n hx hb dX6_begin_7 rfl (lv_at hl 0 rfl) ?_
      refine lv_iload_n hx hb dX6_begin_8 rfl (lv_at hl 2 rfl) ?_
      refine lv_icmp_ge (tgt := 31) hx hb dX6_begin_9 (by decide) (fun c_3 => ?_) (fun c_3 => ?_)
      · skip
        have c_3n : t ≥ pm := ngeT (a := t) (b := pm) f1 ev (by omega) (by omega) c_3
        have c_3m : ¬ t < pm := by omega
        exact m_vret X hr hlk hw hS (Nat.le_of_ble_eq_true rfl) (Nat.le_of_ble_eq_true rfl) ⟨g, rfl, rfl, fun i9 h9 => by rw [f3 i9 h9, show t = pm by omega]⟩ dX6_begin_31
      · skip
        have c_3n : ¬ t ≥ pm := ngeF (a := t) (b := pm) f1 ev (by omega) (by omega) c_3
        have c_3m : t < pm := by omega
        refine lv_iload_n hx hb dX6_begin_12 rfl (lv_at hl 0 rfl) ?_
        refine lv_bipush (v := 8) hx hb dX6_begin_13 (by decide) ?_
        refine lv_icmp_ge (tgt := 31) hx hb dX6_begin_15 (by decide) (fun c_4 => ?_) (fun c_4 => ?_)
        · skip
          have c_4n : t ≥ 8 := ngeT (a := t) (b := 8) f1 rfl (by omega) (by omega) c_4
          have c_4m : ¬ t < 8 := by omega
          exact m_vret X hr hlk hw hS (Nat.le_of_ble_eq_true rfl) (Nat.le_of_ble_eq_true rfl) ⟨g, rfl, rfl, fun i9 h9 => by rw [f3 i9 h9, show t = pm by omega]⟩ dX6_begin_31
        · skip
          have c_4n : ¬ t ≥ 8 := ngeF (a := t) (b := 8) f1 rfl (by omega) (by omega) c_4
          have c_4m : t < 8 := by omega
          refine lv_aload_n hx hb dX6_begin_18 rfl (lv_at hl 1 rfl) ?_
          refine p_getk X hw hp fl_X6_9 rfl dX6_begin_19 ?_
          refine lv_iload_n hx hb dX6_begin_22 rfl (lv_at hl 0 rfl) ?_
          refine lv_iconst (v := 1) hx hb dX6_begin_23 (by decide) ?_
          refine p_ast (n := t) (v := 1) X hw hp hS f1 (by omega) dX6_begin_24 (fun H locs hw hS => ?_)
          refine lv_iinc (v := j + 1) (lv' := [(2, .int (j + 1)), (0, .ref (L (nm a b))), (1, .int v)]) hx hb dX6_begin_25 hl (k := 0) rfl rfl (by decide) rfl (fun ls hl => ?_)
          refine lv_goto (tgt := 7) hx hb dX6_begin_28 (by decide) ?_
          exact ih (t + 1) _ _ _ _ ls (by omega) (nadd (a := t) (b := 1) f1 rfl) (by omega) (beg_s f3) hw hS hl
  refine lv_aload_n hx hb dX6_begin_0 rfl (lv_at hl 0 rfl) ?_
  refine lv_iconst (v := 0) hx hb dX6_begin_1 (by decide) ?_
  refine m_callv (m_runV (i := nm a b) (ci := 4) (As := [.int 0]) (rest := []) X (k_X6_clear Γ l L x a b 0 hp) v_X6_clear ml_X6_19 hw hS (p_obj Γ L (c := x) hp) rfl rfl rfl hl.1 ⟨Nat.le_of_ble_eq_true rfl, Nat.le_of_ble_eq_true rfl⟩ (Nat.le_of_ble_eq_true rfl) ⟨Nat.le_of_ble_eq_true rfl, Nat.le_of_ble_eq_true rfl⟩ dX6_begin_2) hS (fun L1 M1 H locs hp_5 hw hS => ?_)
  obtain ⟨g_5, hg_5, e1, e2⟩ := hp_5
  rw [e1, e2] at hw; clear e1 e2
  have hw : mW Γ.1 vwCl A L (cM Γ L (sP x a b (g_5, 0))) H := hw
  refine lv_iconst (v := 0) hx hb dX6_begin_5 (by decide) ?_
  refine lv_istore_n (lv' := [(2, .int 0), (0, .ref (L (nm a b))), (1, .int v)]) hx hb dX6_begin_6 rfl hl (by decide) rfl (fun ls hl => ?_)
  exact KL 8 0 _ _ _ _ ls rfl rfl (Nat.zero_le _) (fun i9 h9 => (hg_5 i9 h9).trans (if_neg (Nat.not_lt_zero i9)).symm) hw hS (lv_sub hl [0, 1, 2] rfl)
set_option maxHeartbeats 4000000 in
set_option maxRecDepth 100000 in
theorem k_F0_covers (Γ : mG) (l : Launch) (L : mI → Nat) (x : CS) (cm g hn f t ii : Nat) (k : Int32) (w : Int32) (hm : cm < cN x) (ek : k = nI g) (hg : g < hn) (hn6 : hn ≤ 6) (hhn : x.1 (cm + 2) 0 9 = nI hn) (hf : x.2.1 (cm + 2) 3 g = nI f) (ht : x.2.1 (cm + 2) 4 g = nI t) (hf40 : f ≤ 40) (ht40 : t ≤ 40) (ew : w = nI ii) (hii : ii < 40) : mMet Γ l yX0_covers cX0_covers 3 (some .boolean) { frames := 0, cells := 0, slots := 0, locals := 0 } [.ref (L (nm (cm + 2) 0)), .int k, .int w] L (cM Γ L x) (mQi Γ (fun r L1 M1 => r = bI (decide (f ≤ ii ∧ ii < t)) ∧ L1 = L ∧ M1 = cM Γ L x)) := by
  refine m_start (by decide) (Nat.le_of_ble_eq_true rfl) ?_
  intro p e s m args below meth c A ls X hr hlk hnm hw hS hl
  have hx := X.1.1
  have hb := X.1.2.1
  have hl : lv_has ls 3 [(0, .ref (L (nm (cm + 2) 0))), (1, .int k), (2, .int w)] := hl
  refine lv_iload_n hx hb dX0_covers_0 rfl (lv_at hl 1 rfl) ?_
  refine lv_if_lt (tgt := 36) hx hb dX0_covers_1 (by decide) (fun c_1 => ?_) (fun c_1 => ?_)
  · skip
    have c_1n : g < 0 := nltT (a := g) (b := 0) ek rfl (by omega) (by omega) c_1
    have c_1m : ¬ 0 ≤ g := by omega
    refine lv_iconst (v := 0) hx hb dX0_covers_36 (by decide) ?_
    exact m_zret (b := false) X hr hlk hw hS (Nat.le_of_ble_eq_true rfl) (Nat.le_of_ble_eq_true rfl) rfl ⟨by rw [decide_eq_false (show ¬ (f ≤ ii ∧ ii < t) by omega)], rfl, rfl⟩ dX0_covers_37
  · skip
    have c_1n : ¬ g < 0 := nltF (a := g) (b := 0) ek rfl (by omega) (by omega) c_1
    have c_1m : 0 ≤ g := by omega
    refine lv_iload_n hx hb dX0_covers_4 rfl (lv_at hl 1 rfl) ?_
    refine lv_aload_n hx hb dX0_covers_5 rfl (lv_at hl 0 rfl) ?_
    refine s_get (a := cm + 2) (b := 0) (ci := 0) X hw (c_cell hm 0 _ _ _) rfl gX0 9 (by decide) fl_X0_51 rfl rfl dX0_covers_6 ?_
    refine lv_icmp_ge (tgt := 36) hx hb dX0_covers_9 (by decide) (fun c_2 => ?_) (fun c_2 => ?_)
    · skip
      have c_2n : g ≥ hn := ngeT (a := g) (b := hn) ek hhn (by omega) (by omega) c_2
      have c_2m : ¬ g < hn := by omega
      refine lv_iconst (v := 0) hx hb dX0_covers_36 (by decide) ?_
      exact m_zret (b := false) X hr hlk hw hS (Nat.le_of_ble_eq_true rfl) (Nat.le_of_ble_eq_true rfl) rfl ⟨by rw [decide_eq_false (show ¬ (f ≤ ii ∧ ii < t) by omega)], rfl, rfl⟩ dX0_covers_37
    · skip
      have c_2n : ¬ g ≥ hn := ngeF (a := g) (b := hn) ek hhn (by omega) (by omega) c_2
      have c_2m : g < hn := by omega
      refine lv_aload_n hx hb dX0_covers_12 rfl (lv_at hl 0 rfl) ?_
      refine s_get (a := cm + 2) (b := 0) (ci := 0) X hw (c_cell hm 0 _ _ _) rfl gX0 5 (by decide) fl_X0_19 rfl rfl dX0_covers_13 ?_
      refine lv_iload_n hx hb dX0_covers_16 rfl (lv_at hl 1 rfl) ?_
      refine s_iald (n := 6) (k := g) X hw (c_cell hm 3 _ _ _) ek (by omega) (by decide) dX0_covers_17 ?_
      refine lv_iload_n hx hb dX0_covers_18 rfl (lv_at hl 2 rfl) ?_
      refine lv_icmp_gt (tgt := 36) hx hb dX0_covers_19 (by decide) (fun c_3 => ?_) (fun c_3 => ?_)
      · skip
        have c_3n : f > ii := ngtT (a := f) (b := ii) hf ew (by omega) (by omega) c_3
        have c_3m : ¬ f ≤ ii := by omega
        refine lv_iconst (v := 0) hx hb dX0_covers_36 (by decide) ?_
        exact m_zret (b := false) X hr hlk hw hS (Nat.le_of_ble_eq_true rfl) (Nat.le_of_ble_eq_true rfl) rfl ⟨by rw [decide_eq_false (show ¬ (f ≤ ii ∧ ii < t) by omega)], rfl, rfl⟩ dX0_covers_37
      · skip
        have c_3n : ¬ f > ii := ngtF (a := f) (b := ii) hf ew (by omega) (by omega) c_3
        have c_3m : f ≤ ii := by omega
        refine lv_iload_n hx hb dX0_covers_22 rfl (lv_at hl 2 rfl) ?_
        refine lv_aload_n hx hb dX0_covers_23 rfl (lv_at hl 0 rfl) ?_
        refine s_get (a := cm + 2) (b := 0) (ci := 0) X hw (c_cell hm 0 _ _ _) rfl gX0 6 (by decide) fl_X0_22 rfl rfl dX0_covers_24 ?_
        refine lv_iload_n hx hb dX0_covers_27 rfl (lv_at hl 1 rfl) ?_
        refine s_iald (n := 6) (k := g) X hw (c_cell hm 4 _ _ _) ek (by omega) (by decide) dX0_covers_28 ?_
        refine lv_icmp_ge (tgt := 36) hx hb dX0_covers_29 (by decide) (fun c_4 => ?_) (fun c_4 => ?_)
        · skip
          have c_4n : ii ≥ t := ngeT (a := ii) (b := t) ew ht (by omega) (by omega) c_4
          have c_4m : ¬ ii < t := by omega
          refine lv_iconst (v := 0) hx hb dX0_covers_36 (by decide) ?_
          exact m_zret (b := false) X hr hlk hw hS (Nat.le_of_ble_eq_true rfl) (Nat.le_of_ble_eq_true rfl) rfl ⟨by rw [decide_eq_false (show ¬ (f ≤ ii ∧ ii < t) by omega)], rfl, rfl⟩ dX0_covers_37
        · skip
          have c_4n : ¬ ii ≥ t := ngeF (a := ii) (b := t) ew ht (by omega) (by omega) c_4
          have c_4m : ii < t := by omega
          refine lv_iconst (v := 1) hx hb dX0_covers_32 (by decide) ?_
          refine lv_goto (tgt := 37) hx hb dX0_covers_33 (by decide) ?_
          exact m_zret (b := true) X hr hlk hw hS (Nat.le_of_ble_eq_true rfl) (Nat.le_of_ble_eq_true rfl) rfl ⟨by rw [decide_eq_true (show f ≤ ii ∧ ii < t by omega)], rfl, rfl⟩ dX0_covers_37
set_option maxHeartbeats 4000000 in
set_option maxRecDepth 100000 in
theorem k_F2_forget (Γ : mG) (l : Launch) (L : mI → Nat) (x : CS) (cm : Nat)  (hI : CInv x) (hm : cm < cN x) : mMet Γ l yX2_forget cX2_forget 3 none { frames := 0, cells := 0, slots := 0, locals := 0 } [.ref (L (nm 0 3)), .ref (L (nm (cm + 2) 0))] L (cM Γ L x) (mQv Γ (fun L1 M1 => L1 = L ∧ ∃ c1 : CS, M1 = cM Γ L c1 ∧ CInv c1 ∧ kp x c1 ∧ ∀ i, i < 40 → c1.1 1 (2 * i) 1 = -1)) := by
  refine m_start (by decide) (Nat.le_of_ble_eq_true rfl) ?_
  intro p e s m args below meth c A ls X hr hlk hnm hw hS hl
  have hx := X.1.1
  have hb := X.1.2.1
  have hl : lv_has ls 3 [(0, .ref (L (nm 0 3))), (1, .ref (L (nm (cm + 2) 0)))] := hl
  have hk : kp x x := kp.rf
  have KL : ∀ (n : Nat) (t : Nat) (j : Int32) (y : CS) (H : Heap) (locs : List Loc) (ls : Array Slot), t + n = 40 → j = nI t → CInv y → kp x y → (∀ i, i < t → y.1 1 (2 * i) 1 = -1) → mW Γ.1 vwCl A L (cM Γ L (y)) H → va_S A s.heap H locs → lv_has ls 3 [(2, .int j), (0, .ref (L (nm 0 3)))] → W p l e { frames := 0, cells := 0, slots := 0, locals := 0 } s m args below meth c H locs 0 0 (MQ below (mQv Γ (fun L1 M1 => L1 = L ∧ ∃ c1 : CS, M1 = cM Γ L c1 ∧ CInv c1 ∧ kp x c1 ∧ ∀ i, i < 40 → c1.1 1 (2 * i) 1 = -1) A) args s 0 0 A) (F0 m 10 ls []) := by
    intro n
    induction n with
    | zero =>
      intro t j y H locs ls f0 f1 f2 f3 f4 hw hS hl
      have hI := f2
      have hk := f3
      refine lv_iload_n hx hb dX2_forget_10 rfl (lv_at hl 0 rfl) ?_
      refine lv_bipush (v := 40) hx hb dX2_forget_11 (by decide) ?_
      refine lv_icmp_ge (tgt := 32) hx hb dX2_forget_13 (by decide) (fun c_1 => ?_) (fun c_1 => ?_)
      · skip
        have c_1n : t ≥ 40 := ngeT (a := t) (b := 40) f1 rfl (by omega) (by omega) c_1
        have c_1m : ¬ t < 40 := by omega
        exact m_vret X hr hlk hw hS (Nat.le_of_ble_eq_true rfl) (Nat.le_of_ble_eq_true rfl) ⟨rfl, _, rfl, hI, hk, fun i9 h9 => f4 i9 (by omega)⟩ dX2_forget_32
      · skip
        have c_1n : ¬ t ≥ 40 := ngeF (a := t) (b := 40) f1 rfl (by omega) (by omega) c_1
        have c_1m : t < 40 := by omega
        refine lv_aload_n hx hb dX2_forget_16 rfl (lv_at hl 1 rfl) ?_
        refine s_get (a := 0) (b := 3) (ci := 2) X hw rfl rfl gX2 0 (by decide) fl_X2_13 rfl rfl dX2_forget_17 ?_
        refine lv_iload_n hx hb dX2_forget_20 rfl (lv_at hl 0 rfl) ?_
        refine s_aaldS (a := 0) (b := 4) (n := 40) (k := t) (t := 4) (q := L (nm 1 (2 * t))) X hw rfl rfl f1 (by omega) (by decide) (if_pos (show t < 40 by omega)) dX2_forget_21 ?_
        refine lv_iconst (v := (-1)) hx hb dX2_forget_22 (by decide) ?_
        refine q_putd X hw (pO1 (show t < 40 by omega)) hS fl_X2_47 rfl dX2_forget_23 (fun H locs hw hS => ?_)
        have hI := hI.dep (pO1 (show t < 40 by omega)) (Or.inl rfl)
        have hk := hk.putS (a := 1) (b := 2 * t) (k := 1) (v := (-1)) (by omega)
        refine lv_iinc (v := j + 1) (lv' := [(2, .int (j + 1)), (0, .ref (L (nm 0 3)))]) hx hb dX2_forget_26 hl (k := 0) rfl rfl (by decide) rfl (fun ls hl => ?_)
        refine lv_goto (tgt := 10) hx hb dX2_forget_29 (by decide) ?_
        exact (by omega : False).elim
    | succ n ih =>
      intro t j y H locs ls f0 f1 f2 f3 f4 hw hS hl
      have hI := f2
      have hk := f3
      refine lv_iload_n hx hb dX2_forget_10 rfl (lv_at hl 0 rfl) ?_
      refine lv_bipush (v := 40) hx hb dX2_forget_11 (by decide) ?_
      refine lv_icmp_ge (tgt := 32) hx hb dX2_forget_13 (by decide) (fun c_2 => ?_) (fun c_2 => ?_)
      · skip
        have c_2n : t ≥ 40 := ngeT (a := t) (b := 40) f1 rfl (by omega) (by omega) c_2
        have c_2m : ¬ t < 40 := by omega
        exact m_vret X hr hlk hw hS (Nat.le_of_ble_eq_true rfl) (Nat.le_of_ble_eq_true rfl) ⟨rfl, _, rfl, hI, hk, fun i9 h9 => f4 i9 (by omega)⟩ dX2_forget_32
      · skip
        have c_2n : ¬ t ≥ 40 := ngeF (a := t) (b := 40) f1 rfl (by omega) (by omega) c_2
        have c_2m : t < 40 := by omega
        refine lv_aload_n hx hb dX2_forget_16 rfl (lv_at hl 1 rfl) ?_
        refine s_get (a := 0) (b := 3) (ci := 2) X hw rfl rfl gX2 0 (by decide) fl_X2_13 rfl rfl dX2_forget_17 ?_
        refine lv_iload_n hx hb dX2_forget_20 rfl (lv_at hl 0 rfl) ?_
        refine s_aaldS (a := 0) (b := 4) (n := 40) (k := t) (t := 4) (q := L (nm 1 (2 * t))) X hw rfl rfl f1 (by omega) (by decide) (if_pos (show t < 40 by omega)) dX2_forget_21 ?_
        refine lv_iconst (v := (-1)) hx hb dX2_forget_22 (by decide) ?_
        refine q_putd X hw (pO1 (show t < 40 by omega)) hS fl_X2_47 rfl dX2_forget_23 (fun H locs hw hS => ?_)
        have hI := hI.dep (pO1 (show t < 40 by omega)) (Or.inl rfl)
        have hk := hk.putS (a := 1) (b := 2 * t) (k := 1) (v := (-1)) (by omega)
        refine lv_iinc (v := j + 1) (lv' := [(2, .int (j + 1)), (0, .ref (L (nm 0 3)))]) hx hb dX2_forget_26 hl (k := 0) rfl rfl (by decide) rfl (fun ls hl => ?_)
        refine lv_goto (tgt := 10) hx hb dX2_forget_29 (by decide) ?_
        exact ih (t + 1) _ _ _ _ ls (by omega) (nadd (a := t) (b := 1) f1 rfl) hI hk (fun i9 h9 => fg_s f4 i9 h9) hw hS (lv_sub hl [0, 1] rfl)
  refine lv_aload_n hx hb dX2_forget_0 rfl (lv_at hl 0 rfl) ?_
  refine lv_aload_n hx hb dX2_forget_1 rfl (lv_at hl 1 rfl) ?_
  refine s_get (a := cm + 2) (b := 0) (ci := 0) X hw (c_cell hm 0 _ _ _) rfl gX0 4 (by decide) fl_X2_44 rfl rfl dX2_forget_2 ?_
  obtain ⟨z_3, hz_3, ez_3⟩ := (hI.2.1 cm hm).2.1
  refine lv_topi (fun v_4 ev_4 => ?_)
  obtain rfl : v_4 = nI (z_3) := ev_4.trans ez_3
  clear ev_4
  refine s_put (a := 0) (b := 3) (v := nI (z_3)) (ci := 2) (ty := tyX2 3) X hw hS 3 rfl rfl rfl gX2 tyX2 tyX2_ok nmX2 (by decide) fl_X2_31 rfl rfl (tyX2_ok 3 (by decide)) rfl rfl (show 3 < 6 by decide) dX2_forget_5 (fun H locs hw hS => ?_)
  have hI := hI.free (b := 3) (k := 3) (v := nI (z_3)) (by decide)
  have hk := hk.putS (a := 0) (b := 3) (k := 3) (v := nI (z_3)) (by omega)
  refine lv_iconst (v := 0) hx hb dX2_forget_8 (by decide) ?_
  refine lv_istore_n (lv' := [(2, .int 0), (0, .ref (L (nm 0 3))), (1, .ref (L (nm (cm + 2) 0)))]) hx hb dX2_forget_9 rfl hl (by decide) rfl (fun ls hl => ?_)
  exact KL 40 0 _ _ _ _ ls rfl rfl hI hk (fun i9 h9 => absurd h9 (Nat.not_lt_zero _)) hw hS (lv_sub hl [0, 1] rfl)
set_option maxHeartbeats 4000000 in
set_option maxRecDepth 100000 in
theorem k_F2_arrives (Γ : mG) (l : Launch) (L : mI → Nat) (x : CS) (cm om u v : Nat) (k : Int32) (hI : CInv x) (hm : cm < cN x) (hp2 : pOK x u v) (hu : u = 0) (hom : x.1 (cm + 2) 0 4 = nI om) (ho40 : om ≤ 40) : mMet Γ l yX2_arrives cX2_arrives 5 (some .boolean) { frames := 4, cells := 0, slots := 0, locals := 89 } [.ref (L (nm 0 3)), .ref (L (nm (cm + 2) 0)), .int k, .ref (L (nm u v))] L (cM Γ L x) (mQi Γ (fun r L1 M1 => L1 = L ∧ ∃ c1 : CS, M1 = cM Γ L c1 ∧ CInv c1 ∧ kf 0 3 5 x c1 ∧ ArF x om k u v r c1)) := by
  refine m_start (by decide) (Nat.le_of_ble_eq_true rfl) ?_
  intro p e s m args below meth c A ls X hr hlk hnm hw hS hl
  have hx := X.1.1
  have hb := X.1.2.1
  have hl : lv_has ls 5 [(0, .ref (L (nm 0 3))), (1, .ref (L (nm (cm + 2) 0))), (2, .int k), (3, .ref (L (nm u v)))] := hl
  have hk : kf 0 3 5 x x := kf.rf
  refine lv_aload_n hx hb dX2_arrives_0 rfl (lv_at hl 1 rfl) ?_
  refine lv_iload_n hx hb dX2_arrives_1 rfl (lv_at hl 2 rfl) ?_
  refine lv_i2l (v := k.toInt64) hx hb dX2_arrives_2 rfl ?_
  refine m_calli (m_runV (i := nm (cm + 2) 0) (ci := 0) (As := [.long k.toInt64]) (rest := []) X (k_X0_hasInstruction Γ l L x cm k.toInt64 hm) v_X0_hasInstruction ml_X2_108 hw hS (c_cell hm 0 _ _ _) rfl rfl rfl hl.1 ⟨Nat.le_of_ble_eq_true rfl, Nat.le_of_ble_eq_true rfl⟩ (Nat.le_of_ble_eq_true rfl) ⟨Nat.le_of_ble_eq_true rfl, Nat.le_of_ble_eq_true rfl⟩ dX2_arrives_3) hS (fun r_1 L1 M1 H locs hp_1 hw hS => ?_)
  obtain ⟨rfl, e1, e2⟩ := hp_1
  rw [e1, e2] at hw; clear e1 e2
  refine lv_if_eq (tgt := 15) hx hb dX2_arrives_6 (by decide) (fun c_2 => ?_) (fun c_2 => ?_)
  · skip
    have c_2 := bI_f c_2
    refine lv_iconst (v := 0) hx hb dX2_arrives_15 (by decide) ?_
    exact m_zret (b := false) X hr hlk hw hS (Nat.le_of_ble_eq_true rfl) (Nat.le_of_ble_eq_true rfl) rfl ⟨rfl, _, rfl, hI, hk, Or.inl ⟨rfl, rfl, by first | exact Or.inl (by rw [← hasI_isM hom ho40]; assumption) | exact (by omega : False).elim | exact Or.inr ⟨kn, hko, ek, by rw [edz]; exact nI_n0 (by omega), by assumption⟩⟩⟩ dX2_arrives_16
  · skip
    have c_2 := bI_t c_2
    obtain ⟨kn, hkn, ek⟩ := hasI_nat hI hm c_2
    have hko : kn < om := by have := (hasI_iff hom ho40).mp c_2; rw [i64_toInt, ek, nI_toInt (by omega)] at this; omega
    refine lv_iload_n hx hb dX2_arrives_9 rfl (lv_at hl 2 rfl) ?_
    refine lv_bipush (v := 40) hx hb dX2_arrives_10 (by decide) ?_
    refine lv_icmp_lt (tgt := 17) hx hb dX2_arrives_12 (by decide) (fun c_3 => ?_) (fun c_3 => ?_)
    · skip
      have c_3n : kn < 40 := nltT (a := kn) (b := 40) ek rfl (by omega) (by omega) c_3
      have c_3m : ¬ 40 ≤ kn := by omega
      refine lv_aload_n hx hb dX2_arrives_17 rfl (lv_at hl 0 rfl) ?_
      refine s_get (a := 0) (b := 3) (ci := 2) X hw rfl rfl gX2 0 (by decide) fl_X2_13 rfl rfl dX2_arrives_18 ?_
      refine lv_iload_n hx hb dX2_arrives_21 rfl (lv_at hl 2 rfl) ?_
      refine s_aaldS (a := 0) (b := 4) (n := 40) (k := kn) (t := 4) (q := L (nm 1 (2 * kn))) X hw rfl rfl ek (by omega) (by decide) (if_pos (show kn < 40 by omega)) dX2_arrives_22 ?_
      refine lv_astore (lv' := [(4, .ref (L (nm 1 (2 * kn)))), (0, .ref (L (nm 0 3))), (1, .ref (L (nm (cm + 2) 0))), (2, .int k), (3, .ref (L (nm u v)))]) hx hb dX2_arrives_23 hl (by decide) rfl (fun ls hl => ?_)
      refine lv_aload hx hb dX2_arrives_25 (lv_at hl 0 rfl) ?_
      refine q_getd X hw (pO1 (show kn < 40 by omega)) fl_X2_47 rfl dX2_arrives_27 ?_
      refine lv_if_ge (tgt := 46) hx hb dX2_arrives_30 (by decide) (fun c_4 => ?_) (fun c_4 => ?_)
      · skip
        obtain ⟨dz, hdz, edz⟩ := dnat (hI.2.2.1 1 (2 * kn) (pO1 hkn)) (Int32.not_lt.mpr c_4)
        refine lv_aload hx hb dX2_arrives_46 (lv_at hl 0 rfl) ?_
        refine q_getd X hw (pO1 (show kn < 40 by omega)) fl_X2_47 rfl dX2_arrives_48 ?_
        refine lv_aload_n hx hb dX2_arrives_51 rfl (lv_at hl 4 rfl) ?_
        refine q_getd X hw hp2 fl_X2_47 rfl dX2_arrives_52 ?_
        refine lv_icmp_eq (tgt := 60) hx hb dX2_arrives_55 (by decide) (fun c_5 => ?_) (fun c_5 => ?_)
        · skip
          refine lv_aload hx hb dX2_arrives_60 (lv_at hl 0 rfl) ?_
          refine lv_aload_n hx hb dX2_arrives_62 rfl (lv_at hl 4 rfl) ?_
          have hw : mW Γ.1 vwCl A L (cM Γ L (sP x 1 (2 * kn) (x.2.1 1 (2 * kn + 1), dz))) H := by rw [sP_self (q := (x.2.1 1 (2 * kn + 1), dz)) edz rfl]; exact hw
          refine m_calli (m_runV (i := nm 1 (2 * kn)) (ci := 4) (As := [.ref (L (nm u v))]) (rest := []) X (k_F6_takeIn Γ l L x 1 (2 * kn) u v (x.2.1 1 (2 * kn + 1)) dz (x.2.1 u (v + 1)) (pO1 (show kn < 40 by omega)) hp2 (by omega) rfl (by omega)) v_X6_takeIn ml_X2_126 hw hS (p_obj Γ L (c := sP x 1 (2 * kn) (x.2.1 1 (2 * kn + 1), dz)) (pO1 (show kn < 40 by omega))) rfl rfl rfl hl.1 ⟨Nat.le_of_ble_eq_true rfl, Nat.le_of_ble_eq_true rfl⟩ (Nat.le_of_ble_eq_true rfl) ⟨Nat.le_of_ble_eq_true rfl, Nat.le_of_ble_eq_true rfl⟩ dX2_arrives_63) hS (fun r_6 L1 M1 H locs hp_6 hw hS => ?_)
          obtain ⟨e1, e0, e2⟩ := hp_6
          subst e0; rw [e1, e2] at hw; clear e1 e2
          refine lv_if_eq (tgt := 74) hx hb dX2_arrives_66 (by decide) (fun c_7 => ?_) (fun c_7 => ?_)
          · skip
            have c_7 := bI_f c_7
            refine lv_iconst (v := 1) hx hb dX2_arrives_74 (by decide) ?_
            exact m_zret (b := true) X hr hlk hw hS (Nat.le_of_ble_eq_true rfl) (Nat.le_of_ble_eq_true rfl) rfl ⟨rfl, _, rfl, (CInv.putP (a := 1) (b := 2 * kn) (q := (jnF (x.2.1 1 (2 * kn + 1)) (x.2.1 u (v + 1)) (8 + dz), dz)) hI (pO1 (show kn < 40 by omega)) (by show dz ≤ 8; omega)), (hk.putP (a := 1) (b := 2 * kn) (q := (jnF (x.2.1 1 (2 * kn + 1)) (x.2.1 u (v + 1)) (8 + dz), dz)) (by omega)), Or.inr ⟨rfl, kn, hko, ek, Or.inr ⟨dz, hdz, edz, by assumption, Or.inl ⟨by assumption, rfl⟩⟩⟩⟩ dX2_arrives_75
          · skip
            have c_7 := bI_t c_7
            refine lv_aload_n hx hb dX2_arrives_69 rfl (lv_at hl 1 rfl) ?_
            refine lv_iconst (v := 1) hx hb dX2_arrives_70 (by decide) ?_
            refine s_put (a := 0) (b := 3) (v := 1) (ci := 2) (ty := tyX2 4) X hw hS 4 rfl rfl rfl gX2 tyX2 tyX2_ok nmX2 (by decide) fl_X2_119 rfl rfl (tyX2_ok 4 (by decide)) rfl rfl (show 4 < 6 by decide) dX2_arrives_71 (fun H locs hw hS => ?_)
            rw [sP_tSo (by first | decide | omega)] at hw
            have hI := hI.free (b := 3) (k := 4) (v := 1) (by decide)
            have hk := hk.putS (a := 0) (b := 3) (k := 4) (v := 1) (by omega)
            refine lv_iconst (v := 1) hx hb dX2_arrives_74 (by decide) ?_
            exact m_zret (b := true) X hr hlk hw hS (Nat.le_of_ble_eq_true rfl) (Nat.le_of_ble_eq_true rfl) rfl ⟨rfl, _, rfl, (CInv.putP (a := 1) (b := 2 * kn) (q := (jnF (x.2.1 1 (2 * kn + 1)) (x.2.1 u (v + 1)) (8 + dz), dz)) hI (pO1 (show kn < 40 by omega)) (by show dz ≤ 8; omega)), (hk.putP (a := 1) (b := 2 * kn) (q := (jnF (x.2.1 1 (2 * kn + 1)) (x.2.1 u (v + 1)) (8 + dz), dz)) (by omega)), Or.inr ⟨rfl, kn, hko, ek, Or.inr ⟨dz, hdz, edz, by assumption, Or.inr ⟨by assumption, rfl⟩⟩⟩⟩ dX2_arrives_75
        · skip
          refine lv_iconst (v := 0) hx hb dX2_arrives_58 (by decide) ?_
          exact m_zret (b := false) X hr hlk hw hS (Nat.le_of_ble_eq_true rfl) (Nat.le_of_ble_eq_true rfl) rfl ⟨rfl, _, rfl, hI, hk, Or.inl ⟨rfl, rfl, by first | exact Or.inl (by rw [← hasI_isM hom ho40]; assumption) | exact (by omega : False).elim | exact Or.inr ⟨kn, hko, ek, by rw [edz]; exact nI_n0 (by omega), by assumption⟩⟩⟩ dX2_arrives_59
      · skip
        refine lv_aload hx hb dX2_arrives_33 (lv_at hl 0 rfl) ?_
        refine lv_aload_n hx hb dX2_arrives_35 rfl (lv_at hl 4 rfl) ?_
        refine m_callv (m_runV (i := nm 1 (2 * kn)) (ci := 4) (As := [.ref (L (nm u v))]) (rest := []) X (k_X6_copyFrom Γ l L x 1 (2 * kn) u v (pO1 (show kn < 40 by omega)) hp2) v_X6_copyFrom ml_X2_72 hw hS (p_obj Γ L (c := x) (pO1 (show kn < 40 by omega))) rfl rfl rfl hl.1 ⟨Nat.le_of_ble_eq_true rfl, Nat.le_of_ble_eq_true rfl⟩ (Nat.le_of_ble_eq_true rfl) ⟨Nat.le_of_ble_eq_true rfl, Nat.le_of_ble_eq_true rfl⟩ dX2_arrives_36) hS (fun L1 M1 H locs hp_8 hw hS => ?_)
        obtain ⟨e1, e2⟩ := hp_8
        rw [e1, e2] at hw; clear e1 e2
        obtain ⟨g_8, eg_8⟩ : ∃ gz : Nat → Int32, gz = cpy16 (x.2.1 u (v + 1)) (x.2.1 1 (2 * kn + 1)) := ⟨_, rfl⟩
        rw [← eg_8] at hw
        have hI := CInv.dep (a := 1) (b := 2 * kn) (v := x.1 u v 1) (CInv.putVs (a := 1) (b := 2 * kn + 1) (f := g_8) hI (by omega)) (pO1 (show kn < 40 by omega)) (hI.2.2.1 _ _ hp2)
        have hk := (hk.putVs (a := 1) (b := 2 * kn + 1) (f := g_8) (by omega)).putS (a := 1) (b := 2 * kn) (k := 1) (v := x.1 u v 1) (by omega)
        refine lv_aload_n hx hb dX2_arrives_39 rfl (lv_at hl 1 rfl) ?_
        refine lv_iconst (v := 1) hx hb dX2_arrives_40 (by decide) ?_
        refine s_put (a := 0) (b := 3) (v := 1) (ci := 2) (ty := tyX2 4) X hw hS 4 rfl rfl rfl gX2 tyX2 tyX2_ok nmX2 (by decide) fl_X2_119 rfl rfl (tyX2_ok 4 (by decide)) rfl rfl (show 4 < 6 by decide) dX2_arrives_41 (fun H locs hw hS => ?_)
        have hI := hI.free (b := 3) (k := 4) (v := 1) (by decide)
        have hk := hk.putS (a := 0) (b := 3) (k := 4) (v := 1) (by omega)
        refine lv_iconst (v := 1) hx hb dX2_arrives_44 (by decide) ?_
        exact m_zret (b := true) X hr hlk hw hS (Nat.le_of_ble_eq_true rfl) (Nat.le_of_ble_eq_true rfl) rfl ⟨rfl, _, rfl, hI, hk, Or.inr ⟨rfl, kn, hko, ek, Or.inl ⟨Int32.not_le.mp (by assumption), by rw [eg_8]; rfl⟩⟩⟩ dX2_arrives_45
    · skip
      have c_3n : ¬ kn < 40 := nltF (a := kn) (b := 40) ek rfl (by omega) (by omega) c_3
      have c_3m : 40 ≤ kn := by omega
      refine lv_iconst (v := 0) hx hb dX2_arrives_15 (by decide) ?_
      exact m_zret (b := false) X hr hlk hw hS (Nat.le_of_ble_eq_true rfl) (Nat.le_of_ble_eq_true rfl) rfl ⟨rfl, _, rfl, hI, hk, Or.inl ⟨rfl, rfl, by first | exact Or.inl (by rw [← hasI_isM hom ho40]; assumption) | exact (by omega : False).elim | exact Or.inr ⟨kn, hko, ek, by rw [edz]; exact nI_n0 (by omega), by assumption⟩⟩⟩ dX2_arrives_16
