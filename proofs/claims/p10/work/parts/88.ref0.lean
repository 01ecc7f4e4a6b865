/-! THE REFERENCE: its constructor -/
/-- the state of a new object, but for what seenDepth holds -/
def xz (f : Nat → Int32) : RS := (fun _ => 0, fun k => if k = 11 then f else fun _ => 0, fun _ _ => 0)
theorem xz_rA (Γ : mG) (f : Nat → Int32) {k : Nat} (hk : k ≠ 11) : rA Γ (xz f) k 0 = rA Γ (xz fun _ => 0) k 0 := by
  match k, hk with
  | 0, _ => rfl
  | 1, _ => rfl
  | 2, _ => rfl
  | 3, _ => rfl
  | 4, _ => rfl
  | 5, _ => rfl
  | 6, _ => rfl
  | 7, _ => rfl
  | 8, _ => rfl
  | 9, _ => rfl
  | 10, _ => rfl
  | 11, h => exact absurd rfl h
  | 12, _ => rfl
  | 13, _ => rfl
  | 14, _ => rfl
  | 15, _ => rfl
  | 16, _ => rfl
  | 17, _ => rfl
  | 18, _ => rfl
  | 19, _ => rfl
  | 20, _ => rfl
  | 21, _ => rfl
  | 22, _ => rfl
  | 23, _ => rfl
  | 24, _ => rfl
  | 25, _ => rfl
  | 26, _ => rfl
  | 27, _ => rfl
  | _ + 28, _ => rfl
theorem rM_sub {Γ : mG} {L : mI → Nat} {x : RS} {M : mM} (h0 : mget M (.inl 0) = some (.inr (8, rF L x))) (ha : ∀ k e, rA Γ x k 0 = some e → mget M (nm k 0) = some e) : ∀ i e, mget (rM Γ L x) i = some e → mget M i = some e := by
  intro i e h
  rcases i with k | ⟨t, a, b⟩
  · cases k with
    | zero => exact h0.trans h
    | succ k => simp [mget, rM] at h
  · cases t with
    | succ t => simp [mget, rM] at h
    | zero =>
      cases b with
      | zero => exact ha a e h
      | succ b => simp [mget, rM, rA] at h
theorem isM0 (a : Int32) : r_isM 0 a = false := by
  unfold r_isM
  rw [decide_eq_false_iff_not]
  omega
theorem i_X10_init : mIm yX10_init cX10_init 2 0 := ⟨cd_X10_init, im_X10_init, ini_X10, rfl, by decide, by decide, by decide +kernel⟩
set_option maxHeartbeats 4000000 in
set_option maxRecDepth 100000 in
theorem k_X10_init (Γ : mG) (l : Launch) (L : mI → Nat) (M : mM) (r0 : Nat) (ha_s : L (.inl 0) = r0) (hc_s : mget M (.inl 0) = some (.inr (8, [.int 0, .null, .null, .null, .null, .null, .null, .null, .null, .null, .int 0, .null, .null, .int 0, .null, .int 0, .int 0, .null, .null, .null, .null, .null, .int 0, .int 0, .null, .null, .null, .null, .int 0, .int 0, .int 0, .int 0, .int 0, .int 0, .int 0]))) (hM : 0 < M.2.length) : mMet Γ l yX10_init cX10_init 2 none { frames := 1, cells := 21, slots := 7820, locals := 12 } [.ref r0] L M (mQv Γ (fun L1 M1 => ∃ f : Nat → Int32, L1 (.inl 0) = L (.inl 0) ∧ M1 = rM Γ L1 (xz f) ∧ ∀ j, j < 40 → f j = -1)) := by
  refine m_start (by decide) (Nat.le_of_ble_eq_true rfl) ?_
  intro p e s m args below meth c A ls X hr hlk hnm hw hS hl
  have hx := X.1.1
  have hb := X.1.2.1
  have hl : lv_has ls 2 [(0, .ref r0)] := hl
  have KL : ∀ (u t : Nat) (j : Int32) (L1 : mI → Nat) (M1 : mM) (f : Nat → Int32) (H : Heap) (locs : List Loc) (ls : Array Slot), t + u = 40 → j = nI t → 0 < M1.2.length → L1 (.inl 0) = r0 → mget M1 (.inl 0) = some (.inr (8, [.int 0, .ref (L1 (nm 1 0)), .ref (L1 (nm 2 0)), .ref (L1 (nm 3 0)), .ref (L1 (nm 4 0)), .ref (L1 (nm 5 0)), .ref (L1 (nm 6 0)), .ref (L1 (nm 7 0)), .ref (L1 (nm 8 0)), .ref (L1 (nm 9 0)), .int 0, .ref (L1 (nm 11 0)), .ref (L1 (nm 12 0)), .int 0, .ref (L1 (nm 14 0)), .int 0, .int 0, .ref (L1 (nm 17 0)), .ref (L1 (nm 18 0)), .ref (L1 (nm 19 0)), .ref (L1 (nm 20 0)), .ref (L1 (nm 21 0)), .int 0, .int 0, .ref (L1 (nm 24 0)), .ref (L1 (nm 25 0)), .ref (L1 (nm 26 0)), .ref (L1 (nm 27 0)), .int 0, .int 0, .int 0, .int 0, .int 0, .int 0, .int 0])) → mget M1 (nm 11 0) = some (.inl (Γ.2.1 0, 40, .inl (f))) → (∀ k e, k ≠ 11 → rA Γ (xz fun _ => 0) k 0 = some e → mget M1 (nm k 0) = some e) → (∀ i, i < t → f i = -1) → mW Γ.1 vwCl A L1 M1 H → va_S A s.heap H locs → lv_has ls 2 [(1, .int j), (0, .ref r0)] → W p l e { frames := 1, cells := 21, slots := 7820, locals := 12 } s m args below meth c H locs 21 7820 (MQ below (mQv Γ (fun L1 M1 => ∃ f : Nat → Int32, L1 (.inl 0) = L (.inl 0) ∧ M1 = rM Γ L1 (xz f) ∧ ∀ j, j < 40 → f j = -1) A) args s 21 7820 A) (F0 m 182 ls []) := by
    intro u
    induction u with
    | zero =>
      intro t j L1 M1 f H locs ls ht hj hM ha_inl_0 hc_inl_0 hc_nm_11_0 hz hf hw hS hl
      have hcl : j.toNatClampNeg = t := by rw [hj]; exact nI_clamp (by omega)
      refine lv_iload_n hx hb dX10_init_182 rfl (lv_at hl 0 rfl) ?_
      refine lv_bipush (v := 40) hx hb dX10_init_183 (by decide) ?_
      refine lv_icmp_ge (tgt := 201) hx hb dX10_init_185 (by decide) (fun c_1 => ?_) (fun c_1 => ?_)
      · skip
        have c_1n : t ≥ 40 := ngeT (a := t) (b := 40) hj rfl (by omega) (by omega) c_1
        have c_1m : ¬ t < 40 := by omega
        have ht40 : t = 40 := by omega
        subst ht40
        have hw := mW.sub (M' := rM Γ L1 (xz f)) hw (rM_sub hc_inl_0 (fun k e hv => by by_cases hk : k = 11; (subst hk; cases hv; exact hc_nm_11_0); exact hz k e hk (by rw [← xz_rA Γ f hk]; exact hv)))
        exact m_vret X hr hlk hw hS (Nat.le_of_ble_eq_true rfl) (Nat.le_of_ble_eq_true rfl) ⟨f, by rw [ha_inl_0, ha_s], rfl, hf⟩ dX10_init_201
      · skip
        have c_1n : ¬ t ≥ 40 := ngeF (a := t) (b := 40) hj rfl (by omega) (by omega) c_1
        have c_1m : t < 40 := by omega
        refine lv_aload_n hx hb dX10_init_188 rfl (lv_at hl 1 rfl) ?_
        refine c_get (i := .inl 0) X hw ha_inl_0 hc_inl_0 rfl gX10 11 (by decide) fl_X10_39 rfl rfl dX10_init_189 ?_
        refine lv_iload_n hx hb dX10_init_192 rfl (lv_at hl 0 rfl) ?_
        refine lv_iconst (v := (-1)) hx hb dX10_init_193 (by decide) ?_
        refine c_iast (i := nm 11 0) X hw hS rfl hc_nm_11_0 (vp_inN hj (by omega) (by omega)) dX10_init_194 (fun M_2 H locs u_2 hw hS => ?_)
        have hc_nm_11_0 := u_2.1
        have hc_inl_0 := (u_2.2.1 (.inl 0) (by decide)).trans hc_inl_0
        have hM := u_2.2.2 hM
        refine lv_iinc (v := j + 1) (lv' := [(1, .int (j + 1)), (0, .ref r0)]) hx hb dX10_init_195 hl (k := 0) rfl rfl (by decide) rfl (fun ls hl => ?_)
        refine lv_goto (tgt := 182) hx hb dX10_init_198 (by decide) ?_
        exact absurd ht (by omega)
    | succ u ih =>
      intro t j L1 M1 f H locs ls ht hj hM ha_inl_0 hc_inl_0 hc_nm_11_0 hz hf hw hS hl
      have hcl : j.toNatClampNeg = t := by rw [hj]; exact nI_clamp (by omega)
      refine lv_iload_n hx hb dX10_init_182 rfl (lv_at hl 0 rfl) ?_
      refine lv_bipush (v := 40) hx hb dX10_init_183 (by decide) ?_
      refine lv_icmp_ge (tgt := 201) hx hb dX10_init_185 (by decide) (fun c_3 => ?_) (fun c_3 => ?_)
      · skip
        have c_3n : t ≥ 40 := ngeT (a := t) (b := 40) hj rfl (by omega) (by omega) c_3
        have c_3m : ¬ t < 40 := by omega
        have ht40 : t = 40 := by omega
        subst ht40
        have hw := mW.sub (M' := rM Γ L1 (xz f)) hw (rM_sub hc_inl_0 (fun k e hv => by by_cases hk : k = 11; (subst hk; cases hv; exact hc_nm_11_0); exact hz k e hk (by rw [← xz_rA Γ f hk]; exact hv)))
        exact m_vret X hr hlk hw hS (Nat.le_of_ble_eq_true rfl) (Nat.le_of_ble_eq_true rfl) ⟨f, by rw [ha_inl_0, ha_s], rfl, hf⟩ dX10_init_201
      · skip
        have c_3n : ¬ t ≥ 40 := ngeF (a := t) (b := 40) hj rfl (by omega) (by omega) c_3
        have c_3m : t < 40 := by omega
        refine lv_aload_n hx hb dX10_init_188 rfl (lv_at hl 1 rfl) ?_
        refine c_get (i := .inl 0) X hw ha_inl_0 hc_inl_0 rfl gX10 11 (by decide) fl_X10_39 rfl rfl dX10_init_189 ?_
        refine lv_iload_n hx hb dX10_init_192 rfl (lv_at hl 0 rfl) ?_
        refine lv_iconst (v := (-1)) hx hb dX10_init_193 (by decide) ?_
        refine c_iast (i := nm 11 0) X hw hS rfl hc_nm_11_0 (vp_inN hj (by omega) (by omega)) dX10_init_194 (fun M_4 H locs u_4 hw hS => ?_)
        have hc_nm_11_0 := u_4.1
        have hc_inl_0 := (u_4.2.1 (.inl 0) (by decide)).trans hc_inl_0
        have hM := u_4.2.2 hM
        refine lv_iinc (v := j + 1) (lv' := [(1, .int (j + 1)), (0, .ref r0)]) hx hb dX10_init_195 hl (k := 0) rfl rfl (by decide) rfl (fun ls hl => ?_)
        refine lv_goto (tgt := 182) hx hb dX10_init_198 (by decide) ?_
        exact ih (t + 1) _ _ _ _ H locs ls (by omega) (nadd (a := t) (b := 1) hj rfl) hM ha_inl_0 hc_inl_0 hc_nm_11_0 (fun k e hk hv => (u_4.2.1 (nm k 0) (nm_ne1 hk)).trans (hz k e hk hv)) (fun i hi => by rw [hcl]; by_cases hit : i = t <;> simp [upd, hit]; exact hf i (by omega)) hw hS hl
  have hc_inl_0 := hc_s
  refine lv_aload_n hx hb dX10_init_0 rfl (lv_at hl 0 rfl) ?_
  refine c_objInit X ml_X10_1 hl.1 dX10_init_1 (Nat.le_of_ble_eq_true rfl) (Nat.le_of_ble_eq_true rfl) ?_
  refine lv_aload_n hx hb dX10_init_4 rfl (lv_at hl 0 rfl) ?_
  refine lv_bipush (v := 8) hx hb dX10_init_5 (by decide) ?_
  refine c_newi (N' := 8) X hw hS hM 1 0 (by decide) (by decide) (Nat.le_of_ble_eq_true rfl) (Nat.le_of_ble_eq_true rfl) (Nat.le_of_ble_eq_true rfl) dX10_init_7 (fun q_5 L_5 M_5 H hq_5 hL_5 u_5 hw hS => ?_)
  have hc_nm_1_0 := u_5.1
  have ha_nm_1_0 := hq_5
  have hc_inl_0 := (u_5.2.1 (.inl 0) (by decide)).trans hc_inl_0
  have ha_inl_0 : _ = r0 := (hL_5 (.inl 0) (by decide)).trans ha_s
  have hM := u_5.2.2 hM
  refine c_putF (i := .inl 0) (ty := tyX10 1) (fs1 := [.int 0, .ref q_5, .null, .null, .null, .null, .null, .null, .null, .null, .int 0, .null, .null, .int 0, .null, .int 0, .int 0, .null, .null, .null, .null, .null, .int 0, .int 0, .null, .null, .null, .null, .int 0, .int 0, .int 0, .int 0, .int 0, .int 0, .int 0]) X hw hS ha_inl_0 hc_inl_0 rfl gX10 tyX10 tyX10_ok nmX10 1 (by decide) fl_X10_7 rfl rfl hnm rfl (tyX10_ok 1 (by decide)) rfl rfl (show 1 < 35 by decide) rfl dX10_init_9 (fun M_6 H locs u_6 hw hS => ?_)
  have hc_inl_0 := u_6.1
  have hc_nm_1_0 := (u_6.2.1 (nm 1 0) (by decide)).trans hc_nm_1_0
  have hM := u_6.2.2 hM
  refine lv_aload_n hx hb dX10_init_12 rfl (lv_at hl 0 rfl) ?_
  refine lv_bipush (v := 8) hx hb dX10_init_13 (by decide) ?_
  refine c_newi (N' := 8) X hw hS hM 2 0 (by decide) (by decide) (Nat.le_of_ble_eq_true rfl) (Nat.le_of_ble_eq_true rfl) (Nat.le_of_ble_eq_true rfl) dX10_init_15 (fun q_7 L_7 M_7 H hq_7 hL_7 u_7 hw hS => ?_)
  have hc_nm_2_0 := u_7.1
  have ha_nm_2_0 := hq_7
  have hc_inl_0 := (u_7.2.1 (.inl 0) (by decide)).trans hc_inl_0
  have hc_nm_1_0 := (u_7.2.1 (nm 1 0) (nm_ne1 (by omega))).trans hc_nm_1_0
  have ha_inl_0 : _ = r0 := (hL_7 (.inl 0) (by decide)).trans ha_inl_0
  have ha_nm_1_0 : _ = q_5 := (hL_7 (nm 1 0) (nm_ne1 (by omega))).trans ha_nm_1_0
  have hM := u_7.2.2 hM
  refine c_putF (i := .inl 0) (ty := tyX10 2) (fs1 := [.int 0, .ref q_5, .ref q_7, .null, .null, .null, .null, .null, .null, .null, .int 0, .null, .null, .int 0, .null, .int 0, .int 0, .null, .null, .null, .null, .null, .int 0, .int 0, .null, .null, .null, .null, .int 0, .int 0, .int 0, .int 0, .int 0, .int 0, .int 0]) X hw hS ha_inl_0 hc_inl_0 rfl gX10 tyX10 tyX10_ok nmX10 2 (by decide) fl_X10_13 rfl rfl hnm rfl (tyX10_ok 2 (by decide)) rfl rfl (show 2 < 35 by decide) rfl dX10_init_17 (fun M_8 H locs u_8 hw hS => ?_)
  have hc_inl_0 := u_8.1
  have hc_nm_1_0 := (u_8.2.1 (nm 1 0) (by decide)).trans hc_nm_1_0
  have hc_nm_2_0 := (u_8.2.1 (nm 2 0) (by decide)).trans hc_nm_2_0
  have hM := u_8.2.2 hM
  refine lv_aload_n hx hb dX10_init_20 rfl (lv_at hl 0 rfl) ?_
  refine lv_sipush (v := 320) hx hb dX10_init_21 (by decide) ?_
  refine c_newi (N' := 320) X hw hS hM 3 0 (by decide) (by decide) (Nat.le_of_ble_eq_true rfl) (Nat.le_of_ble_eq_true rfl) (Nat.le_of_ble_eq_true rfl) dX10_init_24 (fun q_9 L_9 M_9 H hq_9 hL_9 u_9 hw hS => ?_)
  have hc_nm_3_0 := u_9.1
  have ha_nm_3_0 := hq_9
  have hc_inl_0 := (u_9.2.1 (.inl 0) (by decide)).trans hc_inl_0
  have hc_nm_1_0 := (u_9.2.1 (nm 1 0) (nm_ne1 (by omega))).trans hc_nm_1_0
  have hc_nm_2_0 := (u_9.2.1 (nm 2 0) (nm_ne1 (by omega))).trans hc_nm_2_0
  have ha_inl_0 : _ = r0 := (hL_9 (.inl 0) (by decide)).trans ha_inl_0
  have ha_nm_1_0 : _ = q_5 := (hL_9 (nm 1 0) (nm_ne1 (by omega))).trans ha_nm_1_0
  have ha_nm_2_0 : _ = q_7 := (hL_9 (nm 2 0) (nm_ne1 (by omega))).trans ha_nm_2_0
  have hM := u_9.2.2 hM
  refine c_putF (i := .inl 0) (ty := tyX10 3) (fs1 := [.int 0, .ref q_5, .ref q_7, .ref q_9, .null, .null, .null, .null, .null, .null, .int 0, .null, .null, .int 0, .null, .int 0, .int 0, .null, .null, .null, .null, .null, .int 0, .int 0, .null, .null, .null, .null, .int 0, .int 0, .int 0, .int 0, .int 0, .int 0, .int 0]) X hw hS ha_inl_0 hc_inl_0 rfl gX10 tyX10 tyX10_ok nmX10 3 (by decide) fl_X10_16 rfl rfl hnm rfl (tyX10_ok 3 (by decide)) rfl rfl (show 3 < 35 by decide) rfl dX10_init_26 (fun M_10 H locs u_10 hw hS => ?_)
  have hc_inl_0 := u_10.1
  have hc_nm_1_0 := (u_10.2.1 (nm 1 0) (by decide)).trans hc_nm_1_0
  have hc_nm_2_0 := (u_10.2.1 (nm 2 0) (by decide)).trans hc_nm_2_0
  have hc_nm_3_0 := (u_10.2.1 (nm 3 0) (by decide)).trans hc_nm_3_0
  have hM := u_10.2.2 hM
  refine lv_aload_n hx hb dX10_init_29 rfl (lv_at hl 0 rfl) ?_
  refine lv_sipush (v := 320) hx hb dX10_init_30 (by decide) ?_
  refine c_newl (N' := 320) X hw hS hM 4 0 (by decide) (by decide) (Nat.le_of_ble_eq_true rfl) (Nat.le_of_ble_eq_true rfl) (Nat.le_of_ble_eq_true rfl) dX10_init_33 (fun q_11 L_11 M_11 H hq_11 hL_11 u_11 hw hS => ?_)
  have hc_nm_4_0 := u_11.1
  have ha_nm_4_0 := hq_11
  have hc_inl_0 := (u_11.2.1 (.inl 0) (by decide)).trans hc_inl_0
  have hc_nm_1_0 := (u_11.2.1 (nm 1 0) (nm_ne1 (by omega))).trans hc_nm_1_0
  have hc_nm_2_0 := (u_11.2.1 (nm 2 0) (nm_ne1 (by omega))).trans hc_nm_2_0
  have hc_nm_3_0 := (u_11.2.1 (nm 3 0) (nm_ne1 (by omega))).trans hc_nm_3_0
  have ha_inl_0 : _ = r0 := (hL_11 (.inl 0) (by decide)).trans ha_inl_0
  have ha_nm_1_0 : _ = q_5 := (hL_11 (nm 1 0) (nm_ne1 (by omega))).trans ha_nm_1_0
  have ha_nm_2_0 : _ = q_7 := (hL_11 (nm 2 0) (nm_ne1 (by omega))).trans ha_nm_2_0
  have ha_nm_3_0 : _ = q_9 := (hL_11 (nm 3 0) (nm_ne1 (by omega))).trans ha_nm_3_0
  have hM := u_11.2.2 hM
  refine c_putF (i := .inl 0) (ty := tyX10 4) (fs1 := [.int 0, .ref q_5, .ref q_7, .ref q_9, .ref q_11, .null, .null, .null, .null, .null, .int 0, .null, .null, .int 0, .null, .int 0, .int 0, .null, .null, .null, .null, .null, .int 0, .int 0, .null, .null, .null, .null, .int 0, .int 0, .int 0, .int 0, .int 0, .int 0, .int 0]) X hw hS ha_inl_0 hc_inl_0 rfl gX10 tyX10 tyX10_ok nmX10 4 (by decide) fl_X10_19 rfl rfl hnm rfl (tyX10_ok 4 (by decide)) rfl rfl (show 4 < 35 by decide) rfl dX10_init_35 (fun M_12 H locs u_12 hw hS => ?_)
  have hc_inl_0 := u_12.1
  have hc_nm_1_0 := (u_12.2.1 (nm 1 0) (by decide)).trans hc_nm_1_0
  have hc_nm_2_0 := (u_12.2.1 (nm 2 0) (by decide)).trans hc_nm_2_0
  have hc_nm_3_0 := (u_12.2.1 (nm 3 0) (by decide)).trans hc_nm_3_0
  have hc_nm_4_0 := (u_12.2.1 (nm 4 0) (by decide)).trans hc_nm_4_0
  have hM := u_12.2.2 hM
  refine lv_aload_n hx hb dX10_init_38 rfl (lv_at hl 0 rfl) ?_
  refine lv_bipush (v := 8) hx hb dX10_init_39 (by decide) ?_
  refine c_newi (N' := 8) X hw hS hM 5 0 (by decide) (by decide) (Nat.le_of_ble_eq_true rfl) (Nat.le_of_ble_eq_true rfl) (Nat.le_of_ble_eq_true rfl) dX10_init_41 (fun q_13 L_13 M_13 H hq_13 hL_13 u_13 hw hS => ?_)
  have hc_nm_5_0 := u_13.1
  have ha_nm_5_0 := hq_13
  have hc_inl_0 := (u_13.2.1 (.inl 0) (by decide)).trans hc_inl_0
  have hc_nm_1_0 := (u_13.2.1 (nm 1 0) (nm_ne1 (by omega))).trans hc_nm_1_0
  have hc_nm_2_0 := (u_13.2.1 (nm 2 0) (nm_ne1 (by omega))).trans hc_nm_2_0
  have hc_nm_3_0 := (u_13.2.1 (nm 3 0) (nm_ne1 (by omega))).trans hc_nm_3_0
  have hc_nm_4_0 := (u_13.2.1 (nm 4 0) (nm_ne1 (by omega))).trans hc_nm_4_0
  have ha_inl_0 : _ = r0 := (hL_13 (.inl 0) (by decide)).trans ha_inl_0
  have ha_nm_1_0 : _ = q_5 := (hL_13 (nm 1 0) (nm_ne1 (by omega))).trans ha_nm_1_0
  have ha_nm_2_0 : _ = q_7 := (hL_13 (nm 2 0) (nm_ne1 (by omega))).trans ha_nm_2_0
  have ha_nm_3_0 : _ = q_9 := (hL_13 (nm 3 0) (nm_ne1 (by omega))).trans ha_nm_3_0
  have ha_nm_4_0 : _ = q_11 := (hL_13 (nm 4 0) (nm_ne1 (by omega))).trans ha_nm_4_0
  have hM := u_13.2.2 hM
  refine c_putF (i := .inl 0) (ty := tyX10 5) (fs1 := [.int 0, .ref q_5, .ref q_7, .ref q_9, .ref q_11, .ref q_13, .null, .null, .null, .null, .int 0, .null, .null, .int 0, .null, .int 0, .int 0, .null, .null, .null, .null, .null, .int 0, .int 0, .null, .null, .null, .null, .int 0, .int 0, .int 0, .int 0, .int 0, .int 0, .int 0]) X hw hS ha_inl_0 hc_inl_0 rfl gX10 tyX10 tyX10_ok nmX10 5 (by decide) fl_X10_23 rfl rfl hnm rfl (tyX10_ok 5 (by decide)) rfl rfl (show 5 < 35 by decide) rfl dX10_init_43 (fun M_14 H locs u_14 hw hS => ?_)
  have hc_inl_0 := u_14.1
  have hc_nm_1_0 := (u_14.2.1 (nm 1 0) (by decide)).trans hc_nm_1_0
  have hc_nm_2_0 := (u_14.2.1 (nm 2 0) (by decide)).trans hc_nm_2_0
  have hc_nm_3_0 := (u_14.2.1 (nm 3 0) (by decide)).trans hc_nm_3_0
  have hc_nm_4_0 := (u_14.2.1 (nm 4 0) (by decide)).trans hc_nm_4_0
  have hc_nm_5_0 := (u_14.2.1 (nm 5 0) (by decide)).trans hc_nm_5_0
  have hM := u_14.2.2 hM
  refine lv_aload_n hx hb dX10_init_46 rfl (lv_at hl 0 rfl) ?_
  refine lv_sipush (v := 192) hx hb dX10_init_47 (by decide) ?_
  refine c_newi (N' := 192) X hw hS hM 6 0 (by decide) (by decide) (Nat.le_of_ble_eq_true rfl) (Nat.le_of_ble_eq_true rfl) (Nat.le_of_ble_eq_true rfl) dX10_init_50 (fun q_15 L_15 M_15 H hq_15 hL_15 u_15 hw hS => ?_)
  have hc_nm_6_0 := u_15.1
  have ha_nm_6_0 := hq_15
  have hc_inl_0 := (u_15.2.1 (.inl 0) (by decide)).trans hc_inl_0
  have hc_nm_1_0 := (u_15.2.1 (nm 1 0) (nm_ne1 (by omega))).trans hc_nm_1_0
  have hc_nm_2_0 := (u_15.2.1 (nm 2 0) (nm_ne1 (by omega))).trans hc_nm_2_0
  have hc_nm_3_0 := (u_15.2.1 (nm 3 0) (nm_ne1 (by omega))).trans hc_nm_3_0
  have hc_nm_4_0 := (u_15.2.1 (nm 4 0) (nm_ne1 (by omega))).trans hc_nm_4_0
  have hc_nm_5_0 := (u_15.2.1 (nm 5 0) (nm_ne1 (by omega))).trans hc_nm_5_0
  have ha_inl_0 : _ = r0 := (hL_15 (.inl 0) (by decide)).trans ha_inl_0
  have ha_nm_1_0 : _ = q_5 := (hL_15 (nm 1 0) (nm_ne1 (by omega))).trans ha_nm_1_0
  have ha_nm_2_0 : _ = q_7 := (hL_15 (nm 2 0) (nm_ne1 (by omega))).trans ha_nm_2_0
  have ha_nm_3_0 : _ = q_9 := (hL_15 (nm 3 0) (nm_ne1 (by omega))).trans ha_nm_3_0
  have ha_nm_4_0 : _ = q_11 := (hL_15 (nm 4 0) (nm_ne1 (by omega))).trans ha_nm_4_0
  have ha_nm_5_0 : _ = q_13 := (hL_15 (nm 5 0) (nm_ne1 (by omega))).trans ha_nm_5_0
  have hM := u_15.2.2 hM
  refine c_putF (i := .inl 0) (ty := tyX10 6) (fs1 := [.int 0, .ref q_5, .ref q_7, .ref q_9, .ref q_11, .ref q_13, .ref q_15, .null, .null, .null, .int 0, .null, .null, .int 0, .null, .int 0, .int 0, .null, .null, .null, .null, .null, .int 0, .int 0, .null, .null, .null, .null, .int 0, .int 0, .int 0, .int 0, .int 0, .int 0, .int 0]) X hw hS ha_inl_0 hc_inl_0 rfl gX10 tyX10 tyX10_ok nmX10 6 (by decide) fl_X10_26 rfl rfl hnm rfl (tyX10_ok 6 (by decide)) rfl rfl (show 6 < 35 by decide) rfl dX10_init_52 (fun M_16 H locs u_16 hw hS => ?_)
  have hc_inl_0 := u_16.1
  have hc_nm_1_0 := (u_16.2.1 (nm 1 0) (by decide)).trans hc_nm_1_0
  have hc_nm_2_0 := (u_16.2.1 (nm 2 0) (by decide)).trans hc_nm_2_0
  have hc_nm_3_0 := (u_16.2.1 (nm 3 0) (by decide)).trans hc_nm_3_0
  have hc_nm_4_0 := (u_16.2.1 (nm 4 0) (by decide)).trans hc_nm_4_0
  have hc_nm_5_0 := (u_16.2.1 (nm 5 0) (by decide)).trans hc_nm_5_0
  have hc_nm_6_0 := (u_16.2.1 (nm 6 0) (by decide)).trans hc_nm_6_0
  have hM := u_16.2.2 hM
  refine lv_aload_n hx hb dX10_init_55 rfl (lv_at hl 0 rfl) ?_
  refine lv_sipush (v := 320) hx hb dX10_init_56 (by decide) ?_
  refine c_newi (N' := 320) X hw hS hM 7 0 (by decide) (by decide) (Nat.le_of_ble_eq_true rfl) (Nat.le_of_ble_eq_true rfl) (Nat.le_of_ble_eq_true rfl) dX10_init_59 (fun q_17 L_17 M_17 H hq_17 hL_17 u_17 hw hS => ?_)
  have hc_nm_7_0 := u_17.1
  have ha_nm_7_0 := hq_17
  have hc_inl_0 := (u_17.2.1 (.inl 0) (by decide)).trans hc_inl_0
  have hc_nm_1_0 := (u_17.2.1 (nm 1 0) (nm_ne1 (by omega))).trans hc_nm_1_0
  have hc_nm_2_0 := (u_17.2.1 (nm 2 0) (nm_ne1 (by omega))).trans hc_nm_2_0
  have hc_nm_3_0 := (u_17.2.1 (nm 3 0) (nm_ne1 (by omega))).trans hc_nm_3_0
  have hc_nm_4_0 := (u_17.2.1 (nm 4 0) (nm_ne1 (by omega))).trans hc_nm_4_0
  have hc_nm_5_0 := (u_17.2.1 (nm 5 0) (nm_ne1 (by omega))).trans hc_nm_5_0
  have hc_nm_6_0 := (u_17.2.1 (nm 6 0) (nm_ne1 (by omega))).trans hc_nm_6_0
  have ha_inl_0 : _ = r0 := (hL_17 (.inl 0) (by decide)).trans ha_inl_0
  have ha_nm_1_0 : _ = q_5 := (hL_17 (nm 1 0) (nm_ne1 (by omega))).trans ha_nm_1_0
  have ha_nm_2_0 : _ = q_7 := (hL_17 (nm 2 0) (nm_ne1 (by omega))).trans ha_nm_2_0
  have ha_nm_3_0 : _ = q_9 := (hL_17 (nm 3 0) (nm_ne1 (by omega))).trans ha_nm_3_0
  have ha_nm_4_0 : _ = q_11 := (hL_17 (nm 4 0) (nm_ne1 (by omega))).trans ha_nm_4_0
  have ha_nm_5_0 : _ = q_13 := (hL_17 (nm 5 0) (nm_ne1 (by omega))).trans ha_nm_5_0
  have ha_nm_6_0 : _ = q_15 := (hL_17 (nm 6 0) (nm_ne1 (by omega))).trans ha_nm_6_0
  have hM := u_17.2.2 hM
  refine c_putF (i := .inl 0) (ty := tyX10 7) (fs1 := [.int 0, .ref q_5, .ref q_7, .ref q_9, .ref q_11, .ref q_13, .ref q_15, .ref q_17, .null, .null, .int 0, .null, .null, .int 0, .null, .int 0, .int 0, .null, .null, .null, .null, .null, .int 0, .int 0, .null, .null, .null, .null, .int 0, .int 0, .int 0, .int 0, .int 0, .int 0, .int 0]) X hw hS ha_inl_0 hc_inl_0 rfl gX10 tyX10 tyX10_ok nmX10 7 (by decide) fl_X10_29 rfl rfl hnm rfl (tyX10_ok 7 (by decide)) rfl rfl (show 7 < 35 by decide) rfl dX10_init_61 (fun M_18 H locs u_18 hw hS => ?_)
  have hc_inl_0 := u_18.1
  have hc_nm_1_0 := (u_18.2.1 (nm 1 0) (by decide)).trans hc_nm_1_0
  have hc_nm_2_0 := (u_18.2.1 (nm 2 0) (by decide)).trans hc_nm_2_0
  have hc_nm_3_0 := (u_18.2.1 (nm 3 0) (by decide)).trans hc_nm_3_0
  have hc_nm_4_0 := (u_18.2.1 (nm 4 0) (by decide)).trans hc_nm_4_0
  have hc_nm_5_0 := (u_18.2.1 (nm 5 0) (by decide)).trans hc_nm_5_0
  have hc_nm_6_0 := (u_18.2.1 (nm 6 0) (by decide)).trans hc_nm_6_0
  have hc_nm_7_0 := (u_18.2.1 (nm 7 0) (by decide)).trans hc_nm_7_0
  have hM := u_18.2.2 hM
  refine lv_aload_n hx hb dX10_init_64 rfl (lv_at hl 0 rfl) ?_
  refine lv_sipush (v := 5120) hx hb dX10_init_65 (by decide) ?_
  refine c_newi (N' := 5120) X hw hS hM 8 0 (by decide) (by decide) (Nat.le_of_ble_eq_true rfl) (Nat.le_of_ble_eq_true rfl) (Nat.le_of_ble_eq_true rfl) dX10_init_68 (fun q_19 L_19 M_19 H hq_19 hL_19 u_19 hw hS => ?_)
  have hc_nm_8_0 := u_19.1
  have ha_nm_8_0 := hq_19
  have hc_inl_0 := (u_19.2.1 (.inl 0) (by decide)).trans hc_inl_0
  have hc_nm_1_0 := (u_19.2.1 (nm 1 0) (nm_ne1 (by omega))).trans hc_nm_1_0
  have hc_nm_2_0 := (u_19.2.1 (nm 2 0) (nm_ne1 (by omega))).trans hc_nm_2_0
  have hc_nm_3_0 := (u_19.2.1 (nm 3 0) (nm_ne1 (by omega))).trans hc_nm_3_0
  have hc_nm_4_0 := (u_19.2.1 (nm 4 0) (nm_ne1 (by omega))).trans hc_nm_4_0
  have hc_nm_5_0 := (u_19.2.1 (nm 5 0) (nm_ne1 (by omega))).trans hc_nm_5_0
  have hc_nm_6_0 := (u_19.2.1 (nm 6 0) (nm_ne1 (by omega))).trans hc_nm_6_0
  have hc_nm_7_0 := (u_19.2.1 (nm 7 0) (nm_ne1 (by omega))).trans hc_nm_7_0
  have ha_inl_0 : _ = r0 := (hL_19 (.inl 0) (by decide)).trans ha_inl_0
  have ha_nm_1_0 : _ = q_5 := (hL_19 (nm 1 0) (nm_ne1 (by omega))).trans ha_nm_1_0
  have ha_nm_2_0 : _ = q_7 := (hL_19 (nm 2 0) (nm_ne1 (by omega))).trans ha_nm_2_0
  have ha_nm_3_0 : _ = q_9 := (hL_19 (nm 3 0) (nm_ne1 (by omega))).trans ha_nm_3_0
  have ha_nm_4_0 : _ = q_11 := (hL_19 (nm 4 0) (nm_ne1 (by omega))).trans ha_nm_4_0
  have ha_nm_5_0 : _ = q_13 := (hL_19 (nm 5 0) (nm_ne1 (by omega))).trans ha_nm_5_0
  have ha_nm_6_0 : _ = q_15 := (hL_19 (nm 6 0) (nm_ne1 (by omega))).trans ha_nm_6_0
  have ha_nm_7_0 : _ = q_17 := (hL_19 (nm 7 0) (nm_ne1 (by omega))).trans ha_nm_7_0
  have hM := u_19.2.2 hM
  refine c_putF (i := .inl 0) (ty := tyX10 8) (fs1 := [.int 0, .ref q_5, .ref q_7, .ref q_9, .ref q_11, .ref q_13, .ref q_15, .ref q_17, .ref q_19, .null, .int 0, .null, .null, .int 0, .null, .int 0, .int 0, .null, .null, .null, .null, .null, .int 0, .int 0, .null, .null, .null, .null, .int 0, .int 0, .int 0, .int 0, .int 0, .int 0, .int 0]) X hw hS ha_inl_0 hc_inl_0 rfl gX10 tyX10 tyX10_ok nmX10 8 (by decide) fl_X10_32 rfl rfl hnm rfl (tyX10_ok 8 (by decide)) rfl rfl (show 8 < 35 by decide) rfl dX10_init_70 (fun M_20 H locs u_20 hw hS => ?_)
  have hc_inl_0 := u_20.1
  have hc_nm_1_0 := (u_20.2.1 (nm 1 0) (by decide)).trans hc_nm_1_0
  have hc_nm_2_0 := (u_20.2.1 (nm 2 0) (by decide)).trans hc_nm_2_0
  have hc_nm_3_0 := (u_20.2.1 (nm 3 0) (by decide)).trans hc_nm_3_0
  have hc_nm_4_0 := (u_20.2.1 (nm 4 0) (by decide)).trans hc_nm_4_0
  have hc_nm_5_0 := (u_20.2.1 (nm 5 0) (by decide)).trans hc_nm_5_0
  have hc_nm_6_0 := (u_20.2.1 (nm 6 0) (by decide)).trans hc_nm_6_0
  have hc_nm_7_0 := (u_20.2.1 (nm 7 0) (by decide)).trans hc_nm_7_0
  have hc_nm_8_0 := (u_20.2.1 (nm 8 0) (by decide)).trans hc_nm_8_0
  have hM := u_20.2.2 hM
  refine lv_aload_n hx hb dX10_init_73 rfl (lv_at hl 0 rfl) ?_
  refine lv_bipush (v := 8) hx hb dX10_init_74 (by decide) ?_
  refine c_newz (N' := 8) X hw hS hM 9 0 (by decide) (by decide) (Nat.le_of_ble_eq_true rfl) (Nat.le_of_ble_eq_true rfl) (Nat.le_of_ble_eq_true rfl) dX10_init_76 (fun q_21 L_21 M_21 H hq_21 hL_21 u_21 hw hS => ?_)
  have hc_nm_9_0 := u_21.1
  have ha_nm_9_0 := hq_21
  have hc_inl_0 := (u_21.2.1 (.inl 0) (by decide)).trans hc_inl_0
  have hc_nm_1_0 := (u_21.2.1 (nm 1 0) (nm_ne1 (by omega))).trans hc_nm_1_0
  have hc_nm_2_0 := (u_21.2.1 (nm 2 0) (nm_ne1 (by omega))).trans hc_nm_2_0
  have hc_nm_3_0 := (u_21.2.1 (nm 3 0) (nm_ne1 (by omega))).trans hc_nm_3_0
  have hc_nm_4_0 := (u_21.2.1 (nm 4 0) (nm_ne1 (by omega))).trans hc_nm_4_0
  have hc_nm_5_0 := (u_21.2.1 (nm 5 0) (nm_ne1 (by omega))).trans hc_nm_5_0
  have hc_nm_6_0 := (u_21.2.1 (nm 6 0) (nm_ne1 (by omega))).trans hc_nm_6_0
  have hc_nm_7_0 := (u_21.2.1 (nm 7 0) (nm_ne1 (by omega))).trans hc_nm_7_0
  have hc_nm_8_0 := (u_21.2.1 (nm 8 0) (nm_ne1 (by omega))).trans hc_nm_8_0
  have ha_inl_0 : _ = r0 := (hL_21 (.inl 0) (by decide)).trans ha_inl_0
  have ha_nm_1_0 : _ = q_5 := (hL_21 (nm 1 0) (nm_ne1 (by omega))).trans ha_nm_1_0
  have ha_nm_2_0 : _ = q_7 := (hL_21 (nm 2 0) (nm_ne1 (by omega))).trans ha_nm_2_0
  have ha_nm_3_0 : _ = q_9 := (hL_21 (nm 3 0) (nm_ne1 (by omega))).trans ha_nm_3_0
  have ha_nm_4_0 : _ = q_11 := (hL_21 (nm 4 0) (nm_ne1 (by omega))).trans ha_nm_4_0
  have ha_nm_5_0 : _ = q_13 := (hL_21 (nm 5 0) (nm_ne1 (by omega))).trans ha_nm_5_0
  have ha_nm_6_0 : _ = q_15 := (hL_21 (nm 6 0) (nm_ne1 (by omega))).trans ha_nm_6_0
  have ha_nm_7_0 : _ = q_17 := (hL_21 (nm 7 0) (nm_ne1 (by omega))).trans ha_nm_7_0
  have ha_nm_8_0 : _ = q_19 := (hL_21 (nm 8 0) (nm_ne1 (by omega))).trans ha_nm_8_0
  have hM := u_21.2.2 hM
  refine c_putF (i := .inl 0) (ty := tyX10 9) (fs1 := [.int 0, .ref q_5, .ref q_7, .ref q_9, .ref q_11, .ref q_13, .ref q_15, .ref q_17, .ref q_19, .ref q_21, .int 0, .null, .null, .int 0, .null, .int 0, .int 0, .null, .null, .null, .null, .null, .int 0, .int 0, .null, .null, .null, .null, .int 0, .int 0, .int 0, .int 0, .int 0, .int 0, .int 0]) X hw hS ha_inl_0 hc_inl_0 rfl gX10 tyX10 tyX10_ok nmX10 9 (by decide) fl_X10_35 rfl rfl hnm rfl (tyX10_ok 9 (by decide)) rfl rfl (show 9 < 35 by decide) rfl dX10_init_78 (fun M_22 H locs u_22 hw hS => ?_)
  have hc_inl_0 := u_22.1
  have hc_nm_1_0 := (u_22.2.1 (nm 1 0) (by decide)).trans hc_nm_1_0
  have hc_nm_2_0 := (u_22.2.1 (nm 2 0) (by decide)).trans hc_nm_2_0
  have hc_nm_3_0 := (u_22.2.1 (nm 3 0) (by decide)).trans hc_nm_3_0
  have hc_nm_4_0 := (u_22.2.1 (nm 4 0) (by decide)).trans hc_nm_4_0
  have hc_nm_5_0 := (u_22.2.1 (nm 5 0) (by decide)).trans hc_nm_5_0
  have hc_nm_6_0 := (u_22.2.1 (nm 6 0) (by decide)).trans hc_nm_6_0
  have hc_nm_7_0 := (u_22.2.1 (nm 7 0) (by decide)).trans hc_nm_7_0
  have hc_nm_8_0 := (u_22.2.1 (nm 8 0) (by decide)).trans hc_nm_8_0
  have hc_nm_9_0 := (u_22.2.1 (nm 9 0) (by decide)).trans hc_nm_9_0
  have hM := u_22.2.2 hM
  refine lv_aload_n hx hb dX10_init_81 rfl (lv_at hl 0 rfl) ?_
  refine lv_bipush (v := 40) hx hb dX10_init_82 (by decide) ?_
  refine c_newi (N' := 40) X hw hS hM 11 0 (by decide) (by decide) (Nat.le_of_ble_eq_true rfl) (Nat.le_of_ble_eq_true rfl) (Nat.le_of_ble_eq_true rfl) dX10_init_84 (fun q_23 L_23 M_23 H hq_23 hL_23 u_23 hw hS => ?_)
  have hc_nm_11_0 := u_23.1
  have ha_nm_11_0 := hq_23
  have hc_inl_0 := (u_23.2.1 (.inl 0) (by decide)).trans hc_inl_0
  have hc_nm_1_0 := (u_23.2.1 (nm 1 0) (nm_ne1 (by omega))).trans hc_nm_1_0
  have hc_nm_2_0 := (u_23.2.1 (nm 2 0) (nm_ne1 (by omega))).trans hc_nm_2_0
  have hc_nm_3_0 := (u_23.2.1 (nm 3 0) (nm_ne1 (by omega))).trans hc_nm_3_0
  have hc_nm_4_0 := (u_23.2.1 (nm 4 0) (nm_ne1 (by omega))).trans hc_nm_4_0
  have hc_nm_5_0 := (u_23.2.1 (nm 5 0) (nm_ne1 (by omega))).trans hc_nm_5_0
  have hc_nm_6_0 := (u_23.2.1 (nm 6 0) (nm_ne1 (by omega))).trans hc_nm_6_0
  have hc_nm_7_0 := (u_23.2.1 (nm 7 0) (nm_ne1 (by omega))).trans hc_nm_7_0
  have hc_nm_8_0 := (u_23.2.1 (nm 8 0) (nm_ne1 (by omega))).trans hc_nm_8_0
  have hc_nm_9_0 := (u_23.2.1 (nm 9 0) (nm_ne1 (by omega))).trans hc_nm_9_0
  have ha_inl_0 : _ = r0 := (hL_23 (.inl 0) (by decide)).trans ha_inl_0
  have ha_nm_1_0 : _ = q_5 := (hL_23 (nm 1 0) (nm_ne1 (by omega))).trans ha_nm_1_0
  have ha_nm_2_0 : _ = q_7 := (hL_23 (nm 2 0) (nm_ne1 (by omega))).trans ha_nm_2_0
  have ha_nm_3_0 : _ = q_9 := (hL_23 (nm 3 0) (nm_ne1 (by omega))).trans ha_nm_3_0
  have ha_nm_4_0 : _ = q_11 := (hL_23 (nm 4 0) (nm_ne1 (by omega))).trans ha_nm_4_0
  have ha_nm_5_0 : _ = q_13 := (hL_23 (nm 5 0) (nm_ne1 (by omega))).trans ha_nm_5_0
  have ha_nm_6_0 : _ = q_15 := (hL_23 (nm 6 0) (nm_ne1 (by omega))).trans ha_nm_6_0
  have ha_nm_7_0 : _ = q_17 := (hL_23 (nm 7 0) (nm_ne1 (by omega))).trans ha_nm_7_0
  have ha_nm_8_0 : _ = q_19 := (hL_23 (nm 8 0) (nm_ne1 (by omega))).trans ha_nm_8_0
  have ha_nm_9_0 : _ = q_21 := (hL_23 (nm 9 0) (nm_ne1 (by omega))).trans ha_nm_9_0
  have hM := u_23.2.2 hM
  refine c_putF (i := .inl 0) (ty := tyX10 11) (fs1 := [.int 0, .ref q_5, .ref q_7, .ref q_9, .ref q_11, .ref q_13, .ref q_15, .ref q_17, .ref q_19, .ref q_21, .int 0, .ref q_23, .null, .int 0, .null, .int 0, .int 0, .null, .null, .null, .null, .null, .int 0, .int 0, .null, .null, .null, .null, .int 0, .int 0, .int 0, .int 0, .int 0, .int 0, .int 0]) X hw hS ha_inl_0 hc_inl_0 rfl gX10 tyX10 tyX10_ok nmX10 11 (by decide) fl_X10_39 rfl rfl hnm rfl (tyX10_ok 11 (by decide)) rfl rfl (show 11 < 35 by decide) rfl dX10_init_86 (fun M_24 H locs u_24 hw hS => ?_)
  have hc_inl_0 := u_24.1
  have hc_nm_1_0 := (u_24.2.1 (nm 1 0) (by decide)).trans hc_nm_1_0
  have hc_nm_2_0 := (u_24.2.1 (nm 2 0) (by decide)).trans hc_nm_2_0
  have hc_nm_3_0 := (u_24.2.1 (nm 3 0) (by decide)).trans hc_nm_3_0
  have hc_nm_4_0 := (u_24.2.1 (nm 4 0) (by decide)).trans hc_nm_4_0
  have hc_nm_5_0 := (u_24.2.1 (nm 5 0) (by decide)).trans hc_nm_5_0
  have hc_nm_6_0 := (u_24.2.1 (nm 6 0) (by decide)).trans hc_nm_6_0
  have hc_nm_7_0 := (u_24.2.1 (nm 7 0) (by decide)).trans hc_nm_7_0
  have hc_nm_8_0 := (u_24.2.1 (nm 8 0) (by decide)).trans hc_nm_8_0
  have hc_nm_9_0 := (u_24.2.1 (nm 9 0) (by decide)).trans hc_nm_9_0
  have hc_nm_11_0 := (u_24.2.1 (nm 11 0) (by decide)).trans hc_nm_11_0
  have hM := u_24.2.2 hM
  refine lv_aload_n hx hb dX10_init_89 rfl (lv_at hl 0 rfl) ?_
  refine lv_sipush (v := 640) hx hb dX10_init_90 (by decide) ?_
  refine c_newi (N' := 640) X hw hS hM 12 0 (by decide) (by decide) (Nat.le_of_ble_eq_true rfl) (Nat.le_of_ble_eq_true rfl) (Nat.le_of_ble_eq_true rfl) dX10_init_93 (fun q_25 L_25 M_25 H hq_25 hL_25 u_25 hw hS => ?_)
  have hc_nm_12_0 := u_25.1
  have ha_nm_12_0 := hq_25
  have hc_inl_0 := (u_25.2.1 (.inl 0) (by decide)).trans hc_inl_0
  have hc_nm_1_0 := (u_25.2.1 (nm 1 0) (nm_ne1 (by omega))).trans hc_nm_1_0
  have hc_nm_2_0 := (u_25.2.1 (nm 2 0) (nm_ne1 (by omega))).trans hc_nm_2_0
  have hc_nm_3_0 := (u_25.2.1 (nm 3 0) (nm_ne1 (by omega))).trans hc_nm_3_0
  have hc_nm_4_0 := (u_25.2.1 (nm 4 0) (nm_ne1 (by omega))).trans hc_nm_4_0
  have hc_nm_5_0 := (u_25.2.1 (nm 5 0) (nm_ne1 (by omega))).trans hc_nm_5_0
  have hc_nm_6_0 := (u_25.2.1 (nm 6 0) (nm_ne1 (by omega))).trans hc_nm_6_0
  have hc_nm_7_0 := (u_25.2.1 (nm 7 0) (nm_ne1 (by omega))).trans hc_nm_7_0
  have hc_nm_8_0 := (u_25.2.1 (nm 8 0) (nm_ne1 (by omega))).trans hc_nm_8_0
  have hc_nm_9_0 := (u_25.2.1 (nm 9 0) (nm_ne1 (by omega))).trans hc_nm_9_0
  have hc_nm_11_0 := (u_25.2.1 (nm 11 0) (nm_ne1 (by omega))).trans hc_nm_11_0
  have ha_inl_0 : _ = r0 := (hL_25 (.inl 0) (by decide)).trans ha_inl_0
  have ha_nm_1_0 : _ = q_5 := (hL_25 (nm 1 0) (nm_ne1 (by omega))).trans ha_nm_1_0
  have ha_nm_2_0 : _ = q_7 := (hL_25 (nm 2 0) (nm_ne1 (by omega))).trans ha_nm_2_0
  have ha_nm_3_0 : _ = q_9 := (hL_25 (nm 3 0) (nm_ne1 (by omega))).trans ha_nm_3_0
  have ha_nm_4_0 : _ = q_11 := (hL_25 (nm 4 0) (nm_ne1 (by omega))).trans ha_nm_4_0
  have ha_nm_5_0 : _ = q_13 := (hL_25 (nm 5 0) (nm_ne1 (by omega))).trans ha_nm_5_0
  have ha_nm_6_0 : _ = q_15 := (hL_25 (nm 6 0) (nm_ne1 (by omega))).trans ha_nm_6_0
  have ha_nm_7_0 : _ = q_17 := (hL_25 (nm 7 0) (nm_ne1 (by omega))).trans ha_nm_7_0
  have ha_nm_8_0 : _ = q_19 := (hL_25 (nm 8 0) (nm_ne1 (by omega))).trans ha_nm_8_0
  have ha_nm_9_0 : _ = q_21 := (hL_25 (nm 9 0) (nm_ne1 (by omega))).trans ha_nm_9_0
  have ha_nm_11_0 : _ = q_23 := (hL_25 (nm 11 0) (nm_ne1 (by omega))).trans ha_nm_11_0
  have hM := u_25.2.2 hM
  refine c_putF (i := .inl 0) (ty := tyX10 12) (fs1 := [.int 0, .ref q_5, .ref q_7, .ref q_9, .ref q_11, .ref q_13, .ref q_15, .ref q_17, .ref q_19, .ref q_21, .int 0, .ref q_23, .ref q_25, .int 0, .null, .int 0, .int 0, .null, .null, .null, .null, .null, .int 0, .int 0, .null, .null, .null, .null, .int 0, .int 0, .int 0, .int 0, .int 0, .int 0, .int 0]) X hw hS ha_inl_0 hc_inl_0 rfl gX10 tyX10 tyX10_ok nmX10 12 (by decide) fl_X10_42 rfl rfl hnm rfl (tyX10_ok 12 (by decide)) rfl rfl (show 12 < 35 by decide) rfl dX10_init_95 (fun M_26 H locs u_26 hw hS => ?_)
  have hc_inl_0 := u_26.1
  have hc_nm_1_0 := (u_26.2.1 (nm 1 0) (by decide)).trans hc_nm_1_0
  have hc_nm_2_0 := (u_26.2.1 (nm 2 0) (by decide)).trans hc_nm_2_0
  have hc_nm_3_0 := (u_26.2.1 (nm 3 0) (by decide)).trans hc_nm_3_0
  have hc_nm_4_0 := (u_26.2.1 (nm 4 0) (by decide)).trans hc_nm_4_0
  have hc_nm_5_0 := (u_26.2.1 (nm 5 0) (by decide)).trans hc_nm_5_0
  have hc_nm_6_0 := (u_26.2.1 (nm 6 0) (by decide)).trans hc_nm_6_0
  have hc_nm_7_0 := (u_26.2.1 (nm 7 0) (by decide)).trans hc_nm_7_0
  have hc_nm_8_0 := (u_26.2.1 (nm 8 0) (by decide)).trans hc_nm_8_0
  have hc_nm_9_0 := (u_26.2.1 (nm 9 0) (by decide)).trans hc_nm_9_0
  have hc_nm_11_0 := (u_26.2.1 (nm 11 0) (by decide)).trans hc_nm_11_0
  have hc_nm_12_0 := (u_26.2.1 (nm 12 0) (by decide)).trans hc_nm_12_0
  have hM := u_26.2.2 hM
  refine lv_aload_n hx hb dX10_init_98 rfl (lv_at hl 0 rfl) ?_
  refine lv_bipush (v := 16) hx hb dX10_init_99 (by decide) ?_
  refine c_newi (N' := 16) X hw hS hM 14 0 (by decide) (by decide) (Nat.le_of_ble_eq_true rfl) (Nat.le_of_ble_eq_true rfl) (Nat.le_of_ble_eq_true rfl) dX10_init_101 (fun q_27 L_27 M_27 H hq_27 hL_27 u_27 hw hS => ?_)
  have hc_nm_14_0 := u_27.1
  have ha_nm_14_0 := hq_27
  have hc_inl_0 := (u_27.2.1 (.inl 0) (by decide)).trans hc_inl_0
  have hc_nm_1_0 := (u_27.2.1 (nm 1 0) (nm_ne1 (by omega))).trans hc_nm_1_0
  have hc_nm_2_0 := (u_27.2.1 (nm 2 0) (nm_ne1 (by omega))).trans hc_nm_2_0
  have hc_nm_3_0 := (u_27.2.1 (nm 3 0) (nm_ne1 (by omega))).trans hc_nm_3_0
  have hc_nm_4_0 := (u_27.2.1 (nm 4 0) (nm_ne1 (by omega))).trans hc_nm_4_0
  have hc_nm_5_0 := (u_27.2.1 (nm 5 0) (nm_ne1 (by omega))).trans hc_nm_5_0
  have hc_nm_6_0 := (u_27.2.1 (nm 6 0) (nm_ne1 (by omega))).trans hc_nm_6_0
  have hc_nm_7_0 := (u_27.2.1 (nm 7 0) (nm_ne1 (by omega))).trans hc_nm_7_0
  have hc_nm_8_0 := (u_27.2.1 (nm 8 0) (nm_ne1 (by omega))).trans hc_nm_8_0
  have hc_nm_9_0 := (u_27.2.1 (nm 9 0) (nm_ne1 (by omega))).trans hc_nm_9_0
  have hc_nm_11_0 := (u_27.2.1 (nm 11 0) (nm_ne1 (by omega))).trans hc_nm_11_0
  have hc_nm_12_0 := (u_27.2.1 (nm 12 0) (nm_ne1 (by omega))).trans hc_nm_12_0
  have ha_inl_0 : _ = r0 := (hL_27 (.inl 0) (by decide)).trans ha_inl_0
  have ha_nm_1_0 : _ = q_5 := (hL_27 (nm 1 0) (nm_ne1 (by omega))).trans ha_nm_1_0
  have ha_nm_2_0 : _ = q_7 := (hL_27 (nm 2 0) (nm_ne1 (by omega))).trans ha_nm_2_0
  have ha_nm_3_0 : _ = q_9 := (hL_27 (nm 3 0) (nm_ne1 (by omega))).trans ha_nm_3_0
  have ha_nm_4_0 : _ = q_11 := (hL_27 (nm 4 0) (nm_ne1 (by omega))).trans ha_nm_4_0
  have ha_nm_5_0 : _ = q_13 := (hL_27 (nm 5 0) (nm_ne1 (by omega))).trans ha_nm_5_0
  have ha_nm_6_0 : _ = q_15 := (hL_27 (nm 6 0) (nm_ne1 (by omega))).trans ha_nm_6_0
  have ha_nm_7_0 : _ = q_17 := (hL_27 (nm 7 0) (nm_ne1 (by omega))).trans ha_nm_7_0
  have ha_nm_8_0 : _ = q_19 := (hL_27 (nm 8 0) (nm_ne1 (by omega))).trans ha_nm_8_0
  have ha_nm_9_0 : _ = q_21 := (hL_27 (nm 9 0) (nm_ne1 (by omega))).trans ha_nm_9_0
  have ha_nm_11_0 : _ = q_23 := (hL_27 (nm 11 0) (nm_ne1 (by omega))).trans ha_nm_11_0
  have ha_nm_12_0 : _ = q_25 := (hL_27 (nm 12 0) (nm_ne1 (by omega))).trans ha_nm_12_0
  have hM := u_27.2.2 hM
  refine c_putF (i := .inl 0) (ty := tyX10 14) (fs1 := [.int 0, .ref q_5, .ref q_7, .ref q_9, .ref q_11, .ref q_13, .ref q_15, .ref q_17, .ref q_19, .ref q_21, .int 0, .ref q_23, .ref q_25, .int 0, .ref q_27, .int 0, .int 0, .null, .null, .null, .null, .null, .int 0, .int 0, .null, .null, .null, .null, .int 0, .int 0, .int 0, .int 0, .int 0, .int 0, .int 0]) X hw hS ha_inl_0 hc_inl_0 rfl gX10 tyX10 tyX10_ok nmX10 14 (by decide) fl_X10_45 rfl rfl hnm rfl (tyX10_ok 14 (by decide)) rfl rfl (show 14 < 35 by decide) rfl dX10_init_103 (fun M_28 H locs u_28 hw hS => ?_)
  have hc_inl_0 := u_28.1
  have hc_nm_1_0 := (u_28.2.1 (nm 1 0) (by decide)).trans hc_nm_1_0
  have hc_nm_2_0 := (u_28.2.1 (nm 2 0) (by decide)).trans hc_nm_2_0
  have hc_nm_3_0 := (u_28.2.1 (nm 3 0) (by decide)).trans hc_nm_3_0
  have hc_nm_4_0 := (u_28.2.1 (nm 4 0) (by decide)).trans hc_nm_4_0
  have hc_nm_5_0 := (u_28.2.1 (nm 5 0) (by decide)).trans hc_nm_5_0
  have hc_nm_6_0 := (u_28.2.1 (nm 6 0) (by decide)).trans hc_nm_6_0
  have hc_nm_7_0 := (u_28.2.1 (nm 7 0) (by decide)).trans hc_nm_7_0
  have hc_nm_8_0 := (u_28.2.1 (nm 8 0) (by decide)).trans hc_nm_8_0
  have hc_nm_9_0 := (u_28.2.1 (nm 9 0) (by decide)).trans hc_nm_9_0
  have hc_nm_11_0 := (u_28.2.1 (nm 11 0) (by decide)).trans hc_nm_11_0
  have hc_nm_12_0 := (u_28.2.1 (nm 12 0) (by decide)).trans hc_nm_12_0
  have hc_nm_14_0 := (u_28.2.1 (nm 14 0) (by decide)).trans hc_nm_14_0
  have hM := u_28.2.2 hM
  refine lv_aload_n hx hb dX10_init_106 rfl (lv_at hl 0 rfl) ?_
  refine lv_bipush (v := 8) hx hb dX10_init_107 (by decide) ?_
  refine c_newi (N' := 8) X hw hS hM 17 0 (by decide) (by decide) (Nat.le_of_ble_eq_true rfl) (Nat.le_of_ble_eq_true rfl) (Nat.le_of_ble_eq_true rfl) dX10_init_109 (fun q_29 L_29 M_29 H hq_29 hL_29 u_29 hw hS => ?_)
  have hc_nm_17_0 := u_29.1
  have ha_nm_17_0 := hq_29
  have hc_inl_0 := (u_29.2.1 (.inl 0) (by decide)).trans hc_inl_0
  have hc_nm_1_0 := (u_29.2.1 (nm 1 0) (nm_ne1 (by omega))).trans hc_nm_1_0
  have hc_nm_2_0 := (u_29.2.1 (nm 2 0) (nm_ne1 (by omega))).trans hc_nm_2_0
  have hc_nm_3_0 := (u_29.2.1 (nm 3 0) (nm_ne1 (by omega))).trans hc_nm_3_0
  have hc_nm_4_0 := (u_29.2.1 (nm 4 0) (nm_ne1 (by omega))).trans hc_nm_4_0
  have hc_nm_5_0 := (u_29.2.1 (nm 5 0) (nm_ne1 (by omega))).trans hc_nm_5_0
  have hc_nm_6_0 := (u_29.2.1 (nm 6 0) (nm_ne1 (by omega))).trans hc_nm_6_0
  have hc_nm_7_0 := (u_29.2.1 (nm 7 0) (nm_ne1 (by omega))).trans hc_nm_7_0
  have hc_nm_8_0 := (u_29.2.1 (nm 8 0) (nm_ne1 (by omega))).trans hc_nm_8_0
  have hc_nm_9_0 := (u_29.2.1 (nm 9 0) (nm_ne1 (by omega))).trans hc_nm_9_0
  have hc_nm_11_0 := (u_29.2.1 (nm 11 0) (nm_ne1 (by omega))).trans hc_nm_11_0
  have hc_nm_12_0 := (u_29.2.1 (nm 12 0) (nm_ne1 (by omega))).trans hc_nm_12_0
  have hc_nm_14_0 := (u_29.2.1 (nm 14 0) (nm_ne1 (by omega))).trans hc_nm_14_0
  have ha_inl_0 : _ = r0 := (hL_29 (.inl 0) (by decide)).trans ha_inl_0
  have ha_nm_1_0 : _ = q_5 := (hL_29 (nm 1 0) (nm_ne1 (by omega))).trans ha_nm_1_0
  have ha_nm_2_0 : _ = q_7 := (hL_29 (nm 2 0) (nm_ne1 (by omega))).trans ha_nm_2_0
  have ha_nm_3_0 : _ = q_9 := (hL_29 (nm 3 0) (nm_ne1 (by omega))).trans ha_nm_3_0
  have ha_nm_4_0 : _ = q_11 := (hL_29 (nm 4 0) (nm_ne1 (by omega))).trans ha_nm_4_0
  have ha_nm_5_0 : _ = q_13 := (hL_29 (nm 5 0) (nm_ne1 (by omega))).trans ha_nm_5_0
  have ha_nm_6_0 : _ = q_15 := (hL_29 (nm 6 0) (nm_ne1 (by omega))).trans ha_nm_6_0
  have ha_nm_7_0 : _ = q_17 := (hL_29 (nm 7 0) (nm_ne1 (by omega))).trans ha_nm_7_0
  have ha_nm_8_0 : _ = q_19 := (hL_29 (nm 8 0) (nm_ne1 (by omega))).trans ha_nm_8_0
  have ha_nm_9_0 : _ = q_21 := (hL_29 (nm 9 0) (nm_ne1 (by omega))).trans ha_nm_9_0
  have ha_nm_11_0 : _ = q_23 := (hL_29 (nm 11 0) (nm_ne1 (by omega))).trans ha_nm_11_0
  have ha_nm_12_0 : _ = q_25 := (hL_29 (nm 12 0) (nm_ne1 (by omega))).trans ha_nm_12_0
  have ha_nm_14_0 : _ = q_27 := (hL_29 (nm 14 0) (nm_ne1 (by omega))).trans ha_nm_14_0
  have hM := u_29.2.2 hM
  refine c_putF (i := .inl 0) (ty := tyX10 17) (fs1 := [.int 0, .ref q_5, .ref q_7, .ref q_9, .ref q_11, .ref q_13, .ref q_15, .ref q_17, .ref q_19, .ref q_21, .int 0, .ref q_23, .ref q_25, .int 0, .ref q_27, .int 0, .int 0, .ref q_29, .null, .null, .null, .null, .int 0, .int 0, .null, .null, .null, .null, .int 0, .int 0, .int 0, .int 0, .int 0, .int 0, .int 0]) X hw hS ha_inl_0 hc_inl_0 rfl gX10 tyX10 tyX10_ok nmX10 17 (by decide) fl_X10_48 rfl rfl hnm rfl (tyX10_ok 17 (by decide)) rfl rfl (show 17 < 35 by decide) rfl dX10_init_111 (fun M_30 H locs u_30 hw hS => ?_)
  have hc_inl_0 := u_30.1
  have hc_nm_1_0 := (u_30.2.1 (nm 1 0) (by decide)).trans hc_nm_1_0
  have hc_nm_2_0 := (u_30.2.1 (nm 2 0) (by decide)).trans hc_nm_2_0
  have hc_nm_3_0 := (u_30.2.1 (nm 3 0) (by decide)).trans hc_nm_3_0
  have hc_nm_4_0 := (u_30.2.1 (nm 4 0) (by decide)).trans hc_nm_4_0
  have hc_nm_5_0 := (u_30.2.1 (nm 5 0) (by decide)).trans hc_nm_5_0
  have hc_nm_6_0 := (u_30.2.1 (nm 6 0) (by decide)).trans hc_nm_6_0
  have hc_nm_7_0 := (u_30.2.1 (nm 7 0) (by decide)).trans hc_nm_7_0
  have hc_nm_8_0 := (u_30.2.1 (nm 8 0) (by decide)).trans hc_nm_8_0
  have hc_nm_9_0 := (u_30.2.1 (nm 9 0) (by decide)).trans hc_nm_9_0
  have hc_nm_11_0 := (u_30.2.1 (nm 11 0) (by decide)).trans hc_nm_11_0
  have hc_nm_12_0 := (u_30.2.1 (nm 12 0) (by decide)).trans hc_nm_12_0
  have hc_nm_14_0 := (u_30.2.1 (nm 14 0) (by decide)).trans hc_nm_14_0
  have hc_nm_17_0 := (u_30.2.1 (nm 17 0) (by decide)).trans hc_nm_17_0
  have hM := u_30.2.2 hM
  refine lv_aload_n hx hb dX10_init_114 rfl (lv_at hl 0 rfl) ?_
  refine lv_sipush (v := 128) hx hb dX10_init_115 (by decide) ?_
  refine c_newl (N' := 128) X hw hS hM 18 0 (by decide) (by decide) (Nat.le_of_ble_eq_true rfl) (Nat.le_of_ble_eq_true rfl) (Nat.le_of_ble_eq_true rfl) dX10_init_118 (fun q_31 L_31 M_31 H hq_31 hL_31 u_31 hw hS => ?_)
  have hc_nm_18_0 := u_31.1
  have ha_nm_18_0 := hq_31
  have hc_inl_0 := (u_31.2.1 (.inl 0) (by decide)).trans hc_inl_0
  have hc_nm_1_0 := (u_31.2.1 (nm 1 0) (nm_ne1 (by omega))).trans hc_nm_1_0
  have hc_nm_2_0 := (u_31.2.1 (nm 2 0) (nm_ne1 (by omega))).trans hc_nm_2_0
  have hc_nm_3_0 := (u_31.2.1 (nm 3 0) (nm_ne1 (by omega))).trans hc_nm_3_0
  have hc_nm_4_0 := (u_31.2.1 (nm 4 0) (nm_ne1 (by omega))).trans hc_nm_4_0
  have hc_nm_5_0 := (u_31.2.1 (nm 5 0) (nm_ne1 (by omega))).trans hc_nm_5_0
  have hc_nm_6_0 := (u_31.2.1 (nm 6 0) (nm_ne1 (by omega))).trans hc_nm_6_0
  have hc_nm_7_0 := (u_31.2.1 (nm 7 0) (nm_ne1 (by omega))).trans hc_nm_7_0
  have hc_nm_8_0 := (u_31.2.1 (nm 8 0) (nm_ne1 (by omega))).trans hc_nm_8_0
  have hc_nm_9_0 := (u_31.2.1 (nm 9 0) (nm_ne1 (by omega))).trans hc_nm_9_0
  have hc_nm_11_0 := (u_31.2.1 (nm 11 0) (nm_ne1 (by omega))).trans hc_nm_11_0
  have hc_nm_12_0 := (u_31.2.1 (nm 12 0) (nm_ne1 (by omega))).trans hc_nm_12_0
  have hc_nm_14_0 := (u_31.2.1 (nm 14 0) (nm_ne1 (by omega))).trans hc_nm_14_0
  have hc_nm_17_0 := (u_31.2.1 (nm 17 0) (nm_ne1 (by omega))).trans hc_nm_17_0
  have ha_inl_0 : _ = r0 := (hL_31 (.inl 0) (by decide)).trans ha_inl_0
  have ha_nm_1_0 : _ = q_5 := (hL_31 (nm 1 0) (nm_ne1 (by omega))).trans ha_nm_1_0
  have ha_nm_2_0 : _ = q_7 := (hL_31 (nm 2 0) (nm_ne1 (by omega))).trans ha_nm_2_0
  have ha_nm_3_0 : _ = q_9 := (hL_31 (nm 3 0) (nm_ne1 (by omega))).trans ha_nm_3_0
  have ha_nm_4_0 : _ = q_11 := (hL_31 (nm 4 0) (nm_ne1 (by omega))).trans ha_nm_4_0
  have ha_nm_5_0 : _ = q_13 := (hL_31 (nm 5 0) (nm_ne1 (by omega))).trans ha_nm_5_0
  have ha_nm_6_0 : _ = q_15 := (hL_31 (nm 6 0) (nm_ne1 (by omega))).trans ha_nm_6_0
  have ha_nm_7_0 : _ = q_17 := (hL_31 (nm 7 0) (nm_ne1 (by omega))).trans ha_nm_7_0
  have ha_nm_8_0 : _ = q_19 := (hL_31 (nm 8 0) (nm_ne1 (by omega))).trans ha_nm_8_0
  have ha_nm_9_0 : _ = q_21 := (hL_31 (nm 9 0) (nm_ne1 (by omega))).trans ha_nm_9_0
  have ha_nm_11_0 : _ = q_23 := (hL_31 (nm 11 0) (nm_ne1 (by omega))).trans ha_nm_11_0
  have ha_nm_12_0 : _ = q_25 := (hL_31 (nm 12 0) (nm_ne1 (by omega))).trans ha_nm_12_0
  have ha_nm_14_0 : _ = q_27 := (hL_31 (nm 14 0) (nm_ne1 (by omega))).trans ha_nm_14_0
  have ha_nm_17_0 : _ = q_29 := (hL_31 (nm 17 0) (nm_ne1 (by omega))).trans ha_nm_17_0
  have hM := u_31.2.2 hM
  refine c_putF (i := .inl 0) (ty := tyX10 18) (fs1 := [.int 0, .ref q_5, .ref q_7, .ref q_9, .ref q_11, .ref q_13, .ref q_15, .ref q_17, .ref q_19, .ref q_21, .int 0, .ref q_23, .ref q_25, .int 0, .ref q_27, .int 0, .int 0, .ref q_29, .ref q_31, .null, .null, .null, .int 0, .int 0, .null, .null, .null, .null, .int 0, .int 0, .int 0, .int 0, .int 0, .int 0, .int 0]) X hw hS ha_inl_0 hc_inl_0 rfl gX10 tyX10 tyX10_ok nmX10 18 (by decide) fl_X10_51 rfl rfl hnm rfl (tyX10_ok 18 (by decide)) rfl rfl (show 18 < 35 by decide) rfl dX10_init_120 (fun M_32 H locs u_32 hw hS => ?_)
  have hc_inl_0 := u_32.1
  have hc_nm_1_0 := (u_32.2.1 (nm 1 0) (by decide)).trans hc_nm_1_0
  have hc_nm_2_0 := (u_32.2.1 (nm 2 0) (by decide)).trans hc_nm_2_0
  have hc_nm_3_0 := (u_32.2.1 (nm 3 0) (by decide)).trans hc_nm_3_0
  have hc_nm_4_0 := (u_32.2.1 (nm 4 0) (by decide)).trans hc_nm_4_0
  have hc_nm_5_0 := (u_32.2.1 (nm 5 0) (by decide)).trans hc_nm_5_0
  have hc_nm_6_0 := (u_32.2.1 (nm 6 0) (by decide)).trans hc_nm_6_0
  have hc_nm_7_0 := (u_32.2.1 (nm 7 0) (by decide)).trans hc_nm_7_0
  have hc_nm_8_0 := (u_32.2.1 (nm 8 0) (by decide)).trans hc_nm_8_0
  have hc_nm_9_0 := (u_32.2.1 (nm 9 0) (by decide)).trans hc_nm_9_0
  have hc_nm_11_0 := (u_32.2.1 (nm 11 0) (by decide)).trans hc_nm_11_0
  have hc_nm_12_0 := (u_32.2.1 (nm 12 0) (by decide)).trans hc_nm_12_0
  have hc_nm_14_0 := (u_32.2.1 (nm 14 0) (by decide)).trans hc_nm_14_0
  have hc_nm_17_0 := (u_32.2.1 (nm 17 0) (by decide)).trans hc_nm_17_0
  have hc_nm_18_0 := (u_32.2.1 (nm 18 0) (by decide)).trans hc_nm_18_0
  have hM := u_32.2.2 hM
  refine lv_aload_n hx hb dX10_init_123 rfl (lv_at hl 0 rfl) ?_
  refine lv_bipush (v := 8) hx hb dX10_init_124 (by decide) ?_
  refine c_newi (N' := 8) X hw hS hM 19 0 (by decide) (by decide) (Nat.le_of_ble_eq_true rfl) (Nat.le_of_ble_eq_true rfl) (Nat.le_of_ble_eq_true rfl) dX10_init_126 (fun q_33 L_33 M_33 H hq_33 hL_33 u_33 hw hS => ?_)
  have hc_nm_19_0 := u_33.1
  have ha_nm_19_0 := hq_33
  have hc_inl_0 := (u_33.2.1 (.inl 0) (by decide)).trans hc_inl_0
  have hc_nm_1_0 := (u_33.2.1 (nm 1 0) (nm_ne1 (by omega))).trans hc_nm_1_0
  have hc_nm_2_0 := (u_33.2.1 (nm 2 0) (nm_ne1 (by omega))).trans hc_nm_2_0
  have hc_nm_3_0 := (u_33.2.1 (nm 3 0) (nm_ne1 (by omega))).trans hc_nm_3_0
  have hc_nm_4_0 := (u_33.2.1 (nm 4 0) (nm_ne1 (by omega))).trans hc_nm_4_0
  have hc_nm_5_0 := (u_33.2.1 (nm 5 0) (nm_ne1 (by omega))).trans hc_nm_5_0
  have hc_nm_6_0 := (u_33.2.1 (nm 6 0) (nm_ne1 (by omega))).trans hc_nm_6_0
  have hc_nm_7_0 := (u_33.2.1 (nm 7 0) (nm_ne1 (by omega))).trans hc_nm_7_0
  have hc_nm_8_0 := (u_33.2.1 (nm 8 0) (nm_ne1 (by omega))).trans hc_nm_8_0
  have hc_nm_9_0 := (u_33.2.1 (nm 9 0) (nm_ne1 (by omega))).trans hc_nm_9_0
  have hc_nm_11_0 := (u_33.2.1 (nm 11 0) (nm_ne1 (by omega))).trans hc_nm_11_0
  have hc_nm_12_0 := (u_33.2.1 (nm 12 0) (nm_ne1 (by omega))).trans hc_nm_12_0
  have hc_nm_14_0 := (u_33.2.1 (nm 14 0) (nm_ne1 (by omega))).trans hc_nm_14_0
  have hc_nm_17_0 := (u_33.2.1 (nm 17 0) (nm_ne1 (by omega))).trans hc_nm_17_0
  have hc_nm_18_0 := (u_33.2.1 (nm 18 0) (nm_ne1 (by omega))).trans hc_nm_18_0
  have ha_inl_0 : _ = r0 := (hL_33 (.inl 0) (by decide)).trans ha_inl_0
  have ha_nm_1_0 : _ = q_5 := (hL_33 (nm 1 0) (nm_ne1 (by omega))).trans ha_nm_1_0
  have ha_nm_2_0 : _ = q_7 := (hL_33 (nm 2 0) (nm_ne1 (by omega))).trans ha_nm_2_0
  have ha_nm_3_0 : _ = q_9 := (hL_33 (nm 3 0) (nm_ne1 (by omega))).trans ha_nm_3_0
  have ha_nm_4_0 : _ = q_11 := (hL_33 (nm 4 0) (nm_ne1 (by omega))).trans ha_nm_4_0
  have ha_nm_5_0 : _ = q_13 := (hL_33 (nm 5 0) (nm_ne1 (by omega))).trans ha_nm_5_0
  have ha_nm_6_0 : _ = q_15 := (hL_33 (nm 6 0) (nm_ne1 (by omega))).trans ha_nm_6_0
  have ha_nm_7_0 : _ = q_17 := (hL_33 (nm 7 0) (nm_ne1 (by omega))).trans ha_nm_7_0
  have ha_nm_8_0 : _ = q_19 := (hL_33 (nm 8 0) (nm_ne1 (by omega))).trans ha_nm_8_0
  have ha_nm_9_0 : _ = q_21 := (hL_33 (nm 9 0) (nm_ne1 (by omega))).trans ha_nm_9_0
  have ha_nm_11_0 : _ = q_23 := (hL_33 (nm 11 0) (nm_ne1 (by omega))).trans ha_nm_11_0
  have ha_nm_12_0 : _ = q_25 := (hL_33 (nm 12 0) (nm_ne1 (by omega))).trans ha_nm_12_0
  have ha_nm_14_0 : _ = q_27 := (hL_33 (nm 14 0) (nm_ne1 (by omega))).trans ha_nm_14_0
  have ha_nm_17_0 : _ = q_29 := (hL_33 (nm 17 0) (nm_ne1 (by omega))).trans ha_nm_17_0
  have ha_nm_18_0 : _ = q_31 := (hL_33 (nm 18 0) (nm_ne1 (by omega))).trans ha_nm_18_0
  have hM := u_33.2.2 hM
  refine c_putF (i := .inl 0) (ty := tyX10 19) (fs1 := [.int 0, .ref q_5, .ref q_7, .ref q_9, .ref q_11, .ref q_13, .ref q_15, .ref q_17, .ref q_19, .ref q_21, .int 0, .ref q_23, .ref q_25, .int 0, .ref q_27, .int 0, .int 0, .ref q_29, .ref q_31, .ref q_33, .null, .null, .int 0, .int 0, .null, .null, .null, .null, .int 0, .int 0, .int 0, .int 0, .int 0, .int 0, .int 0]) X hw hS ha_inl_0 hc_inl_0 rfl gX10 tyX10 tyX10_ok nmX10 19 (by decide) fl_X10_54 rfl rfl hnm rfl (tyX10_ok 19 (by decide)) rfl rfl (show 19 < 35 by decide) rfl dX10_init_128 (fun M_34 H locs u_34 hw hS => ?_)
  have hc_inl_0 := u_34.1
  have hc_nm_1_0 := (u_34.2.1 (nm 1 0) (by decide)).trans hc_nm_1_0
  have hc_nm_2_0 := (u_34.2.1 (nm 2 0) (by decide)).trans hc_nm_2_0
  have hc_nm_3_0 := (u_34.2.1 (nm 3 0) (by decide)).trans hc_nm_3_0
  have hc_nm_4_0 := (u_34.2.1 (nm 4 0) (by decide)).trans hc_nm_4_0
  have hc_nm_5_0 := (u_34.2.1 (nm 5 0) (by decide)).trans hc_nm_5_0
  have hc_nm_6_0 := (u_34.2.1 (nm 6 0) (by decide)).trans hc_nm_6_0
  have hc_nm_7_0 := (u_34.2.1 (nm 7 0) (by decide)).trans hc_nm_7_0
  have hc_nm_8_0 := (u_34.2.1 (nm 8 0) (by decide)).trans hc_nm_8_0
  have hc_nm_9_0 := (u_34.2.1 (nm 9 0) (by decide)).trans hc_nm_9_0
  have hc_nm_11_0 := (u_34.2.1 (nm 11 0) (by decide)).trans hc_nm_11_0
  have hc_nm_12_0 := (u_34.2.1 (nm 12 0) (by decide)).trans hc_nm_12_0
  have hc_nm_14_0 := (u_34.2.1 (nm 14 0) (by decide)).trans hc_nm_14_0
  have hc_nm_17_0 := (u_34.2.1 (nm 17 0) (by decide)).trans hc_nm_17_0
  have hc_nm_18_0 := (u_34.2.1 (nm 18 0) (by decide)).trans hc_nm_18_0
  have hc_nm_19_0 := (u_34.2.1 (nm 19 0) (by decide)).trans hc_nm_19_0
  have hM := u_34.2.2 hM
  refine lv_aload_n hx hb dX10_init_131 rfl (lv_at hl 0 rfl) ?_
  refine lv_bipush (v := 8) hx hb dX10_init_132 (by decide) ?_
  refine c_newi (N' := 8) X hw hS hM 20 0 (by decide) (by decide) (Nat.le_of_ble_eq_true rfl) (Nat.le_of_ble_eq_true rfl) (Nat.le_of_ble_eq_true rfl) dX10_init_134 (fun q_35 L_35 M_35 H hq_35 hL_35 u_35 hw hS => ?_)
  have hc_nm_20_0 := u_35.1
  have ha_nm_20_0 := hq_35
  have hc_inl_0 := (u_35.2.1 (.inl 0) (by decide)).trans hc_inl_0
  have hc_nm_1_0 := (u_35.2.1 (nm 1 0) (nm_ne1 (by omega))).trans hc_nm_1_0
  have hc_nm_2_0 := (u_35.2.1 (nm 2 0) (nm_ne1 (by omega))).trans hc_nm_2_0
  have hc_nm_3_0 := (u_35.2.1 (nm 3 0) (nm_ne1 (by omega))).trans hc_nm_3_0
  have hc_nm_4_0 := (u_35.2.1 (nm 4 0) (nm_ne1 (by omega))).trans hc_nm_4_0
  have hc_nm_5_0 := (u_35.2.1 (nm 5 0) (nm_ne1 (by omega))).trans hc_nm_5_0
  have hc_nm_6_0 := (u_35.2.1 (nm 6 0) (nm_ne1 (by omega))).trans hc_nm_6_0
  have hc_nm_7_0 := (u_35.2.1 (nm 7 0) (nm_ne1 (by omega))).trans hc_nm_7_0
  have hc_nm_8_0 := (u_35.2.1 (nm 8 0) (nm_ne1 (by omega))).trans hc_nm_8_0
  have hc_nm_9_0 := (u_35.2.1 (nm 9 0) (nm_ne1 (by omega))).trans hc_nm_9_0
  have hc_nm_11_0 := (u_35.2.1 (nm 11 0) (nm_ne1 (by omega))).trans hc_nm_11_0
  have hc_nm_12_0 := (u_35.2.1 (nm 12 0) (nm_ne1 (by omega))).trans hc_nm_12_0
  have hc_nm_14_0 := (u_35.2.1 (nm 14 0) (nm_ne1 (by omega))).trans hc_nm_14_0
  have hc_nm_17_0 := (u_35.2.1 (nm 17 0) (nm_ne1 (by omega))).trans hc_nm_17_0
  have hc_nm_18_0 := (u_35.2.1 (nm 18 0) (nm_ne1 (by omega))).trans hc_nm_18_0
  have hc_nm_19_0 := (u_35.2.1 (nm 19 0) (nm_ne1 (by omega))).trans hc_nm_19_0
  have ha_inl_0 : _ = r0 := (hL_35 (.inl 0) (by decide)).trans ha_inl_0
  have ha_nm_1_0 : _ = q_5 := (hL_35 (nm 1 0) (nm_ne1 (by omega))).trans ha_nm_1_0
  have ha_nm_2_0 : _ = q_7 := (hL_35 (nm 2 0) (nm_ne1 (by omega))).trans ha_nm_2_0
  have ha_nm_3_0 : _ = q_9 := (hL_35 (nm 3 0) (nm_ne1 (by omega))).trans ha_nm_3_0
  have ha_nm_4_0 : _ = q_11 := (hL_35 (nm 4 0) (nm_ne1 (by omega))).trans ha_nm_4_0
  have ha_nm_5_0 : _ = q_13 := (hL_35 (nm 5 0) (nm_ne1 (by omega))).trans ha_nm_5_0
  have ha_nm_6_0 : _ = q_15 := (hL_35 (nm 6 0) (nm_ne1 (by omega))).trans ha_nm_6_0
  have ha_nm_7_0 : _ = q_17 := (hL_35 (nm 7 0) (nm_ne1 (by omega))).trans ha_nm_7_0
  have ha_nm_8_0 : _ = q_19 := (hL_35 (nm 8 0) (nm_ne1 (by omega))).trans ha_nm_8_0
  have ha_nm_9_0 : _ = q_21 := (hL_35 (nm 9 0) (nm_ne1 (by omega))).trans ha_nm_9_0
  have ha_nm_11_0 : _ = q_23 := (hL_35 (nm 11 0) (nm_ne1 (by omega))).trans ha_nm_11_0
  have ha_nm_12_0 : _ = q_25 := (hL_35 (nm 12 0) (nm_ne1 (by omega))).trans ha_nm_12_0
  have ha_nm_14_0 : _ = q_27 := (hL_35 (nm 14 0) (nm_ne1 (by omega))).trans ha_nm_14_0
  have ha_nm_17_0 : _ = q_29 := (hL_35 (nm 17 0) (nm_ne1 (by omega))).trans ha_nm_17_0
  have ha_nm_18_0 : _ = q_31 := (hL_35 (nm 18 0) (nm_ne1 (by omega))).trans ha_nm_18_0
  have ha_nm_19_0 : _ = q_33 := (hL_35 (nm 19 0) (nm_ne1 (by omega))).trans ha_nm_19_0
  have hM := u_35.2.2 hM
  refine c_putF (i := .inl 0) (ty := tyX10 20) (fs1 := [.int 0, .ref q_5, .ref q_7, .ref q_9, .ref q_11, .ref q_13, .ref q_15, .ref q_17, .ref q_19, .ref q_21, .int 0, .ref q_23, .ref q_25, .int 0, .ref q_27, .int 0, .int 0, .ref q_29, .ref q_31, .ref q_33, .ref q_35, .null, .int 0, .int 0, .null, .null, .null, .null, .int 0, .int 0, .int 0, .int 0, .int 0, .int 0, .int 0]) X hw hS ha_inl_0 hc_inl_0 rfl gX10 tyX10 tyX10_ok nmX10 20 (by decide) fl_X10_57 rfl rfl hnm rfl (tyX10_ok 20 (by decide)) rfl rfl (show 20 < 35 by decide) rfl dX10_init_136 (fun M_36 H locs u_36 hw hS => ?_)
  have hc_inl_0 := u_36.1
  have hc_nm_1_0 := (u_36.2.1 (nm 1 0) (by decide)).trans hc_nm_1_0
  have hc_nm_2_0 := (u_36.2.1 (nm 2 0) (by decide)).trans hc_nm_2_0
  have hc_nm_3_0 := (u_36.2.1 (nm 3 0) (by decide)).trans hc_nm_3_0
  have hc_nm_4_0 := (u_36.2.1 (nm 4 0) (by decide)).trans hc_nm_4_0
  have hc_nm_5_0 := (u_36.2.1 (nm 5 0) (by decide)).trans hc_nm_5_0
  have hc_nm_6_0 := (u_36.2.1 (nm 6 0) (by decide)).trans hc_nm_6_0
  have hc_nm_7_0 := (u_36.2.1 (nm 7 0) (by decide)).trans hc_nm_7_0
  have hc_nm_8_0 := (u_36.2.1 (nm 8 0) (by decide)).trans hc_nm_8_0
  have hc_nm_9_0 := (u_36.2.1 (nm 9 0) (by decide)).trans hc_nm_9_0
  have hc_nm_11_0 := (u_36.2.1 (nm 11 0) (by decide)).trans hc_nm_11_0
  have hc_nm_12_0 := (u_36.2.1 (nm 12 0) (by decide)).trans hc_nm_12_0
  have hc_nm_14_0 := (u_36.2.1 (nm 14 0) (by decide)).trans hc_nm_14_0
  have hc_nm_17_0 := (u_36.2.1 (nm 17 0) (by decide)).trans hc_nm_17_0
  have hc_nm_18_0 := (u_36.2.1 (nm 18 0) (by decide)).trans hc_nm_18_0
  have hc_nm_19_0 := (u_36.2.1 (nm 19 0) (by decide)).trans hc_nm_19_0
  have hc_nm_20_0 := (u_36.2.1 (nm 20 0) (by decide)).trans hc_nm_20_0
  have hM := u_36.2.2 hM
  refine lv_aload_n hx hb dX10_init_139 rfl (lv_at hl 0 rfl) ?_
  refine lv_bipush (v := 8) hx hb dX10_init_140 (by decide) ?_
  refine c_newi (N' := 8) X hw hS hM 21 0 (by decide) (by decide) (Nat.le_of_ble_eq_true rfl) (Nat.le_of_ble_eq_true rfl) (Nat.le_of_ble_eq_true rfl) dX10_init_142 (fun q_37 L_37 M_37 H hq_37 hL_37 u_37 hw hS => ?_)
  have hc_nm_21_0 := u_37.1
  have ha_nm_21_0 := hq_37
  have hc_inl_0 := (u_37.2.1 (.inl 0) (by decide)).trans hc_inl_0
  have hc_nm_1_0 := (u_37.2.1 (nm 1 0) (nm_ne1 (by omega))).trans hc_nm_1_0
  have hc_nm_2_0 := (u_37.2.1 (nm 2 0) (nm_ne1 (by omega))).trans hc_nm_2_0
  have hc_nm_3_0 := (u_37.2.1 (nm 3 0) (nm_ne1 (by omega))).trans hc_nm_3_0
  have hc_nm_4_0 := (u_37.2.1 (nm 4 0) (nm_ne1 (by omega))).trans hc_nm_4_0
  have hc_nm_5_0 := (u_37.2.1 (nm 5 0) (nm_ne1 (by omega))).trans hc_nm_5_0
  have hc_nm_6_0 := (u_37.2.1 (nm 6 0) (nm_ne1 (by omega))).trans hc_nm_6_0
  have hc_nm_7_0 := (u_37.2.1 (nm 7 0) (nm_ne1 (by omega))).trans hc_nm_7_0
  have hc_nm_8_0 := (u_37.2.1 (nm 8 0) (nm_ne1 (by omega))).trans hc_nm_8_0
  have hc_nm_9_0 := (u_37.2.1 (nm 9 0) (nm_ne1 (by omega))).trans hc_nm_9_0
  have hc_nm_11_0 := (u_37.2.1 (nm 11 0) (nm_ne1 (by omega))).trans hc_nm_11_0
  have hc_nm_12_0 := (u_37.2.1 (nm 12 0) (nm_ne1 (by omega))).trans hc_nm_12_0
  have hc_nm_14_0 := (u_37.2.1 (nm 14 0) (nm_ne1 (by omega))).trans hc_nm_14_0
  have hc_nm_17_0 := (u_37.2.1 (nm 17 0) (nm_ne1 (by omega))).trans hc_nm_17_0
  have hc_nm_18_0 := (u_37.2.1 (nm 18 0) (nm_ne1 (by omega))).trans hc_nm_18_0
  have hc_nm_19_0 := (u_37.2.1 (nm 19 0) (nm_ne1 (by omega))).trans hc_nm_19_0
  have hc_nm_20_0 := (u_37.2.1 (nm 20 0) (nm_ne1 (by omega))).trans hc_nm_20_0
  have ha_inl_0 : _ = r0 := (hL_37 (.inl 0) (by decide)).trans ha_inl_0
  have ha_nm_1_0 : _ = q_5 := (hL_37 (nm 1 0) (nm_ne1 (by omega))).trans ha_nm_1_0
  have ha_nm_2_0 : _ = q_7 := (hL_37 (nm 2 0) (nm_ne1 (by omega))).trans ha_nm_2_0
  have ha_nm_3_0 : _ = q_9 := (hL_37 (nm 3 0) (nm_ne1 (by omega))).trans ha_nm_3_0
  have ha_nm_4_0 : _ = q_11 := (hL_37 (nm 4 0) (nm_ne1 (by omega))).trans ha_nm_4_0
  have ha_nm_5_0 : _ = q_13 := (hL_37 (nm 5 0) (nm_ne1 (by omega))).trans ha_nm_5_0
  have ha_nm_6_0 : _ = q_15 := (hL_37 (nm 6 0) (nm_ne1 (by omega))).trans ha_nm_6_0
  have ha_nm_7_0 : _ = q_17 := (hL_37 (nm 7 0) (nm_ne1 (by omega))).trans ha_nm_7_0
  have ha_nm_8_0 : _ = q_19 := (hL_37 (nm 8 0) (nm_ne1 (by omega))).trans ha_nm_8_0
  have ha_nm_9_0 : _ = q_21 := (hL_37 (nm 9 0) (nm_ne1 (by omega))).trans ha_nm_9_0
  have ha_nm_11_0 : _ = q_23 := (hL_37 (nm 11 0) (nm_ne1 (by omega))).trans ha_nm_11_0
  have ha_nm_12_0 : _ = q_25 := (hL_37 (nm 12 0) (nm_ne1 (by omega))).trans ha_nm_12_0
  have ha_nm_14_0 : _ = q_27 := (hL_37 (nm 14 0) (nm_ne1 (by omega))).trans ha_nm_14_0
  have ha_nm_17_0 : _ = q_29 := (hL_37 (nm 17 0) (nm_ne1 (by omega))).trans ha_nm_17_0
  have ha_nm_18_0 : _ = q_31 := (hL_37 (nm 18 0) (nm_ne1 (by omega))).trans ha_nm_18_0
  have ha_nm_19_0 : _ = q_33 := (hL_37 (nm 19 0) (nm_ne1 (by omega))).trans ha_nm_19_0
  have ha_nm_20_0 : _ = q_35 := (hL_37 (nm 20 0) (nm_ne1 (by omega))).trans ha_nm_20_0
  have hM := u_37.2.2 hM
  refine c_putF (i := .inl 0) (ty := tyX10 21) (fs1 := [.int 0, .ref q_5, .ref q_7, .ref q_9, .ref q_11, .ref q_13, .ref q_15, .ref q_17, .ref q_19, .ref q_21, .int 0, .ref q_23, .ref q_25, .int 0, .ref q_27, .int 0, .int 0, .ref q_29, .ref q_31, .ref q_33, .ref q_35, .ref q_37, .int 0, .int 0, .null, .null, .null, .null, .int 0, .int 0, .int 0, .int 0, .int 0, .int 0, .int 0]) X hw hS ha_inl_0 hc_inl_0 rfl gX10 tyX10 tyX10_ok nmX10 21 (by decide) fl_X10_60 rfl rfl hnm rfl (tyX10_ok 21 (by decide)) rfl rfl (show 21 < 35 by decide) rfl dX10_init_144 (fun M_38 H locs u_38 hw hS => ?_)
  have hc_inl_0 := u_38.1
  have hc_nm_1_0 := (u_38.2.1 (nm 1 0) (by decide)).trans hc_nm_1_0
  have hc_nm_2_0 := (u_38.2.1 (nm 2 0) (by decide)).trans hc_nm_2_0
  have hc_nm_3_0 := (u_38.2.1 (nm 3 0) (by decide)).trans hc_nm_3_0
  have hc_nm_4_0 := (u_38.2.1 (nm 4 0) (by decide)).trans hc_nm_4_0
  have hc_nm_5_0 := (u_38.2.1 (nm 5 0) (by decide)).trans hc_nm_5_0
  have hc_nm_6_0 := (u_38.2.1 (nm 6 0) (by decide)).trans hc_nm_6_0
  have hc_nm_7_0 := (u_38.2.1 (nm 7 0) (by decide)).trans hc_nm_7_0
  have hc_nm_8_0 := (u_38.2.1 (nm 8 0) (by decide)).trans hc_nm_8_0
  have hc_nm_9_0 := (u_38.2.1 (nm 9 0) (by decide)).trans hc_nm_9_0
  have hc_nm_11_0 := (u_38.2.1 (nm 11 0) (by decide)).trans hc_nm_11_0
  have hc_nm_12_0 := (u_38.2.1 (nm 12 0) (by decide)).trans hc_nm_12_0
  have hc_nm_14_0 := (u_38.2.1 (nm 14 0) (by decide)).trans hc_nm_14_0
  have hc_nm_17_0 := (u_38.2.1 (nm 17 0) (by decide)).trans hc_nm_17_0
  have hc_nm_18_0 := (u_38.2.1 (nm 18 0) (by decide)).trans hc_nm_18_0
  have hc_nm_19_0 := (u_38.2.1 (nm 19 0) (by decide)).trans hc_nm_19_0
  have hc_nm_20_0 := (u_38.2.1 (nm 20 0) (by decide)).trans hc_nm_20_0
  have hc_nm_21_0 := (u_38.2.1 (nm 21 0) (by decide)).trans hc_nm_21_0
  have hM := u_38.2.2 hM
  refine lv_aload_n hx hb dX10_init_147 rfl (lv_at hl 0 rfl) ?_
  refine lv_bipush (v := 20) hx hb dX10_init_148 (by decide) ?_
  refine c_newi (N' := 20) X hw hS hM 24 0 (by decide) (by decide) (Nat.le_of_ble_eq_true rfl) (Nat.le_of_ble_eq_true rfl) (Nat.le_of_ble_eq_true rfl) dX10_init_150 (fun q_39 L_39 M_39 H hq_39 hL_39 u_39 hw hS => ?_)
  have hc_nm_24_0 := u_39.1
  have ha_nm_24_0 := hq_39
  have hc_inl_0 := (u_39.2.1 (.inl 0) (by decide)).trans hc_inl_0
  have hc_nm_1_0 := (u_39.2.1 (nm 1 0) (nm_ne1 (by omega))).trans hc_nm_1_0
  have hc_nm_2_0 := (u_39.2.1 (nm 2 0) (nm_ne1 (by omega))).trans hc_nm_2_0
  have hc_nm_3_0 := (u_39.2.1 (nm 3 0) (nm_ne1 (by omega))).trans hc_nm_3_0
  have hc_nm_4_0 := (u_39.2.1 (nm 4 0) (nm_ne1 (by omega))).trans hc_nm_4_0
  have hc_nm_5_0 := (u_39.2.1 (nm 5 0) (nm_ne1 (by omega))).trans hc_nm_5_0
  have hc_nm_6_0 := (u_39.2.1 (nm 6 0) (nm_ne1 (by omega))).trans hc_nm_6_0
  have hc_nm_7_0 := (u_39.2.1 (nm 7 0) (nm_ne1 (by omega))).trans hc_nm_7_0
  have hc_nm_8_0 := (u_39.2.1 (nm 8 0) (nm_ne1 (by omega))).trans hc_nm_8_0
  have hc_nm_9_0 := (u_39.2.1 (nm 9 0) (nm_ne1 (by omega))).trans hc_nm_9_0
  have hc_nm_11_0 := (u_39.2.1 (nm 11 0) (nm_ne1 (by omega))).trans hc_nm_11_0
  have hc_nm_12_0 := (u_39.2.1 (nm 12 0) (nm_ne1 (by omega))).trans hc_nm_12_0
  have hc_nm_14_0 := (u_39.2.1 (nm 14 0) (nm_ne1 (by omega))).trans hc_nm_14_0
  have hc_nm_17_0 := (u_39.2.1 (nm 17 0) (nm_ne1 (by omega))).trans hc_nm_17_0
  have hc_nm_18_0 := (u_39.2.1 (nm 18 0) (nm_ne1 (by omega))).trans hc_nm_18_0
  have hc_nm_19_0 := (u_39.2.1 (nm 19 0) (nm_ne1 (by omega))).trans hc_nm_19_0
  have hc_nm_20_0 := (u_39.2.1 (nm 20 0) (nm_ne1 (by omega))).trans hc_nm_20_0
  have hc_nm_21_0 := (u_39.2.1 (nm 21 0) (nm_ne1 (by omega))).trans hc_nm_21_0
  have ha_inl_0 : _ = r0 := (hL_39 (.inl 0) (by decide)).trans ha_inl_0
  have ha_nm_1_0 : _ = q_5 := (hL_39 (nm 1 0) (nm_ne1 (by omega))).trans ha_nm_1_0
  have ha_nm_2_0 : _ = q_7 := (hL_39 (nm 2 0) (nm_ne1 (by omega))).trans ha_nm_2_0
  have ha_nm_3_0 : _ = q_9 := (hL_39 (nm 3 0) (nm_ne1 (by omega))).trans ha_nm_3_0
  have ha_nm_4_0 : _ = q_11 := (hL_39 (nm 4 0) (nm_ne1 (by omega))).trans ha_nm_4_0
  have ha_nm_5_0 : _ = q_13 := (hL_39 (nm 5 0) (nm_ne1 (by omega))).trans ha_nm_5_0
  have ha_nm_6_0 : _ = q_15 := (hL_39 (nm 6 0) (nm_ne1 (by omega))).trans ha_nm_6_0
  have ha_nm_7_0 : _ = q_17 := (hL_39 (nm 7 0) (nm_ne1 (by omega))).trans ha_nm_7_0
  have ha_nm_8_0 : _ = q_19 := (hL_39 (nm 8 0) (nm_ne1 (by omega))).trans ha_nm_8_0
  have ha_nm_9_0 : _ = q_21 := (hL_39 (nm 9 0) (nm_ne1 (by omega))).trans ha_nm_9_0
  have ha_nm_11_0 : _ = q_23 := (hL_39 (nm 11 0) (nm_ne1 (by omega))).trans ha_nm_11_0
  have ha_nm_12_0 : _ = q_25 := (hL_39 (nm 12 0) (nm_ne1 (by omega))).trans ha_nm_12_0
  have ha_nm_14_0 : _ = q_27 := (hL_39 (nm 14 0) (nm_ne1 (by omega))).trans ha_nm_14_0
  have ha_nm_17_0 : _ = q_29 := (hL_39 (nm 17 0) (nm_ne1 (by omega))).trans ha_nm_17_0
  have ha_nm_18_0 : _ = q_31 := (hL_39 (nm 18 0) (nm_ne1 (by omega))).trans ha_nm_18_0
  have ha_nm_19_0 : _ = q_33 := (hL_39 (nm 19 0) (nm_ne1 (by omega))).trans ha_nm_19_0
  have ha_nm_20_0 : _ = q_35 := (hL_39 (nm 20 0) (nm_ne1 (by omega))).trans ha_nm_20_0
  have ha_nm_21_0 : _ = q_37 := (hL_39 (nm 21 0) (nm_ne1 (by omega))).trans ha_nm_21_0
  have hM := u_39.2.2 hM
  refine c_putF (i := .inl 0) (ty := tyX10 24) (fs1 := [.int 0, .ref q_5, .ref q_7, .ref q_9, .ref q_11, .ref q_13, .ref q_15, .ref q_17, .ref q_19, .ref q_21, .int 0, .ref q_23, .ref q_25, .int 0, .ref q_27, .int 0, .int 0, .ref q_29, .ref q_31, .ref q_33, .ref q_35, .ref q_37, .int 0, .int 0, .ref q_39, .null, .null, .null, .int 0, .int 0, .int 0, .int 0, .int 0, .int 0, .int 0]) X hw hS ha_inl_0 hc_inl_0 rfl gX10 tyX10 tyX10_ok nmX10 24 (by decide) fl_X10_63 rfl rfl hnm rfl (tyX10_ok 24 (by decide)) rfl rfl (show 24 < 35 by decide) rfl dX10_init_152 (fun M_40 H locs u_40 hw hS => ?_)
  have hc_inl_0 := u_40.1
  have hc_nm_1_0 := (u_40.2.1 (nm 1 0) (by decide)).trans hc_nm_1_0
  have hc_nm_2_0 := (u_40.2.1 (nm 2 0) (by decide)).trans hc_nm_2_0
  have hc_nm_3_0 := (u_40.2.1 (nm 3 0) (by decide)).trans hc_nm_3_0
  have hc_nm_4_0 := (u_40.2.1 (nm 4 0) (by decide)).trans hc_nm_4_0
  have hc_nm_5_0 := (u_40.2.1 (nm 5 0) (by decide)).trans hc_nm_5_0
  have hc_nm_6_0 := (u_40.2.1 (nm 6 0) (by decide)).trans hc_nm_6_0
  have hc_nm_7_0 := (u_40.2.1 (nm 7 0) (by decide)).trans hc_nm_7_0
  have hc_nm_8_0 := (u_40.2.1 (nm 8 0) (by decide)).trans hc_nm_8_0
  have hc_nm_9_0 := (u_40.2.1 (nm 9 0) (by decide)).trans hc_nm_9_0
  have hc_nm_11_0 := (u_40.2.1 (nm 11 0) (by decide)).trans hc_nm_11_0
  have hc_nm_12_0 := (u_40.2.1 (nm 12 0) (by decide)).trans hc_nm_12_0
  have hc_nm_14_0 := (u_40.2.1 (nm 14 0) (by decide)).trans hc_nm_14_0
  have hc_nm_17_0 := (u_40.2.1 (nm 17 0) (by decide)).trans hc_nm_17_0
  have hc_nm_18_0 := (u_40.2.1 (nm 18 0) (by decide)).trans hc_nm_18_0
  have hc_nm_19_0 := (u_40.2.1 (nm 19 0) (by decide)).trans hc_nm_19_0
  have hc_nm_20_0 := (u_40.2.1 (nm 20 0) (by decide)).trans hc_nm_20_0
  have hc_nm_21_0 := (u_40.2.1 (nm 21 0) (by decide)).trans hc_nm_21_0
  have hc_nm_24_0 := (u_40.2.1 (nm 24 0) (by decide)).trans hc_nm_24_0
  have hM := u_40.2.2 hM
  refine lv_aload_n hx hb dX10_init_155 rfl (lv_at hl 0 rfl) ?_
  refine lv_bipush (v := 20) hx hb dX10_init_156 (by decide) ?_
  refine c_newi (N' := 20) X hw hS hM 25 0 (by decide) (by decide) (Nat.le_of_ble_eq_true rfl) (Nat.le_of_ble_eq_true rfl) (Nat.le_of_ble_eq_true rfl) dX10_init_158 (fun q_41 L_41 M_41 H hq_41 hL_41 u_41 hw hS => ?_)
  have hc_nm_25_0 := u_41.1
  have ha_nm_25_0 := hq_41
  have hc_inl_0 := (u_41.2.1 (.inl 0) (by decide)).trans hc_inl_0
  have hc_nm_1_0 := (u_41.2.1 (nm 1 0) (nm_ne1 (by omega))).trans hc_nm_1_0
  have hc_nm_2_0 := (u_41.2.1 (nm 2 0) (nm_ne1 (by omega))).trans hc_nm_2_0
  have hc_nm_3_0 := (u_41.2.1 (nm 3 0) (nm_ne1 (by omega))).trans hc_nm_3_0
  have hc_nm_4_0 := (u_41.2.1 (nm 4 0) (nm_ne1 (by omega))).trans hc_nm_4_0
  have hc_nm_5_0 := (u_41.2.1 (nm 5 0) (nm_ne1 (by omega))).trans hc_nm_5_0
  have hc_nm_6_0 := (u_41.2.1 (nm 6 0) (nm_ne1 (by omega))).trans hc_nm_6_0
  have hc_nm_7_0 := (u_41.2.1 (nm 7 0) (nm_ne1 (by omega))).trans hc_nm_7_0
  have hc_nm_8_0 := (u_41.2.1 (nm 8 0) (nm_ne1 (by omega))).trans hc_nm_8_0
  have hc_nm_9_0 := (u_41.2.1 (nm 9 0) (nm_ne1 (by omega))).trans hc_nm_9_0
  have hc_nm_11_0 := (u_41.2.1 (nm 11 0) (nm_ne1 (by omega))).trans hc_nm_11_0
  have hc_nm_12_0 := (u_41.2.1 (nm 12 0) (nm_ne1 (by omega))).trans hc_nm_12_0
  have hc_nm_14_0 := (u_41.2.1 (nm 14 0) (nm_ne1 (by omega))).trans hc_nm_14_0
  have hc_nm_17_0 := (u_41.2.1 (nm 17 0) (nm_ne1 (by omega))).trans hc_nm_17_0
  have hc_nm_18_0 := (u_41.2.1 (nm 18 0) (nm_ne1 (by omega))).trans hc_nm_18_0
  have hc_nm_19_0 := (u_41.2.1 (nm 19 0) (nm_ne1 (by omega))).trans hc_nm_19_0
  have hc_nm_20_0 := (u_41.2.1 (nm 20 0) (nm_ne1 (by omega))).trans hc_nm_20_0
  have hc_nm_21_0 := (u_41.2.1 (nm 21 0) (nm_ne1 (by omega))).trans hc_nm_21_0
  have hc_nm_24_0 := (u_41.2.1 (nm 24 0) (nm_ne1 (by omega))).trans hc_nm_24_0
  have ha_inl_0 : _ = r0 := (hL_41 (.inl 0) (by decide)).trans ha_inl_0
  have ha_nm_1_0 : _ = q_5 := (hL_41 (nm 1 0) (nm_ne1 (by omega))).trans ha_nm_1_0
  have ha_nm_2_0 : _ = q_7 := (hL_41 (nm 2 0) (nm_ne1 (by omega))).trans ha_nm_2_0
  have ha_nm_3_0 : _ = q_9 := (hL_41 (nm 3 0) (nm_ne1 (by omega))).trans ha_nm_3_0
  have ha_nm_4_0 : _ = q_11 := (hL_41 (nm 4 0) (nm_ne1 (by omega))).trans ha_nm_4_0
  have ha_nm_5_0 : _ = q_13 := (hL_41 (nm 5 0) (nm_ne1 (by omega))).trans ha_nm_5_0
  have ha_nm_6_0 : _ = q_15 := (hL_41 (nm 6 0) (nm_ne1 (by omega))).trans ha_nm_6_0
  have ha_nm_7_0 : _ = q_17 := (hL_41 (nm 7 0) (nm_ne1 (by omega))).trans ha_nm_7_0
  have ha_nm_8_0 : _ = q_19 := (hL_41 (nm 8 0) (nm_ne1 (by omega))).trans ha_nm_8_0
  have ha_nm_9_0 : _ = q_21 := (hL_41 (nm 9 0) (nm_ne1 (by omega))).trans ha_nm_9_0
  have ha_nm_11_0 : _ = q_23 := (hL_41 (nm 11 0) (nm_ne1 (by omega))).trans ha_nm_11_0
  have ha_nm_12_0 : _ = q_25 := (hL_41 (nm 12 0) (nm_ne1 (by omega))).trans ha_nm_12_0
  have ha_nm_14_0 : _ = q_27 := (hL_41 (nm 14 0) (nm_ne1 (by omega))).trans ha_nm_14_0
  have ha_nm_17_0 : _ = q_29 := (hL_41 (nm 17 0) (nm_ne1 (by omega))).trans ha_nm_17_0
  have ha_nm_18_0 : _ = q_31 := (hL_41 (nm 18 0) (nm_ne1 (by omega))).trans ha_nm_18_0
  have ha_nm_19_0 : _ = q_33 := (hL_41 (nm 19 0) (nm_ne1 (by omega))).trans ha_nm_19_0
  have ha_nm_20_0 : _ = q_35 := (hL_41 (nm 20 0) (nm_ne1 (by omega))).trans ha_nm_20_0
  have ha_nm_21_0 : _ = q_37 := (hL_41 (nm 21 0) (nm_ne1 (by omega))).trans ha_nm_21_0
  have ha_nm_24_0 : _ = q_39 := (hL_41 (nm 24 0) (nm_ne1 (by omega))).trans ha_nm_24_0
  have hM := u_41.2.2 hM
  refine c_putF (i := .inl 0) (ty := tyX10 25) (fs1 := [.int 0, .ref q_5, .ref q_7, .ref q_9, .ref q_11, .ref q_13, .ref q_15, .ref q_17, .ref q_19, .ref q_21, .int 0, .ref q_23, .ref q_25, .int 0, .ref q_27, .int 0, .int 0, .ref q_29, .ref q_31, .ref q_33, .ref q_35, .ref q_37, .int 0, .int 0, .ref q_39, .ref q_41, .null, .null, .int 0, .int 0, .int 0, .int 0, .int 0, .int 0, .int 0]) X hw hS ha_inl_0 hc_inl_0 rfl gX10 tyX10 tyX10_ok nmX10 25 (by decide) fl_X10_66 rfl rfl hnm rfl (tyX10_ok 25 (by decide)) rfl rfl (show 25 < 35 by decide) rfl dX10_init_160 (fun M_42 H locs u_42 hw hS => ?_)
  have hc_inl_0 := u_42.1
  have hc_nm_1_0 := (u_42.2.1 (nm 1 0) (by decide)).trans hc_nm_1_0
  have hc_nm_2_0 := (u_42.2.1 (nm 2 0) (by decide)).trans hc_nm_2_0
  have hc_nm_3_0 := (u_42.2.1 (nm 3 0) (by decide)).trans hc_nm_3_0
  have hc_nm_4_0 := (u_42.2.1 (nm 4 0) (by decide)).trans hc_nm_4_0
  have hc_nm_5_0 := (u_42.2.1 (nm 5 0) (by decide)).trans hc_nm_5_0
  have hc_nm_6_0 := (u_42.2.1 (nm 6 0) (by decide)).trans hc_nm_6_0
  have hc_nm_7_0 := (u_42.2.1 (nm 7 0) (by decide)).trans hc_nm_7_0
  have hc_nm_8_0 := (u_42.2.1 (nm 8 0) (by decide)).trans hc_nm_8_0
  have hc_nm_9_0 := (u_42.2.1 (nm 9 0) (by decide)).trans hc_nm_9_0
  have hc_nm_11_0 := (u_42.2.1 (nm 11 0) (by decide)).trans hc_nm_11_0
  have hc_nm_12_0 := (u_42.2.1 (nm 12 0) (by decide)).trans hc_nm_12_0
  have hc_nm_14_0 := (u_42.2.1 (nm 14 0) (by decide)).trans hc_nm_14_0
  have hc_nm_17_0 := (u_42.2.1 (nm 17 0) (by decide)).trans hc_nm_17_0
  have hc_nm_18_0 := (u_42.2.1 (nm 18 0) (by decide)).trans hc_nm_18_0
  have hc_nm_19_0 := (u_42.2.1 (nm 19 0) (by decide)).trans hc_nm_19_0
  have hc_nm_20_0 := (u_42.2.1 (nm 20 0) (by decide)).trans hc_nm_20_0
  have hc_nm_21_0 := (u_42.2.1 (nm 21 0) (by decide)).trans hc_nm_21_0
  have hc_nm_24_0 := (u_42.2.1 (nm 24 0) (by decide)).trans hc_nm_24_0
  have hc_nm_25_0 := (u_42.2.1 (nm 25 0) (by decide)).trans hc_nm_25_0
  have hM := u_42.2.2 hM
  refine lv_aload_n hx hb dX10_init_163 rfl (lv_at hl 0 rfl) ?_
  refine lv_bipush (v := 20) hx hb dX10_init_164 (by decide) ?_
  refine c_newi (N' := 20) X hw hS hM 26 0 (by decide) (by decide) (Nat.le_of_ble_eq_true rfl) (Nat.le_of_ble_eq_true rfl) (Nat.le_of_ble_eq_true rfl) dX10_init_166 (fun q_43 L_43 M_43 H hq_43 hL_43 u_43 hw hS => ?_)
  have hc_nm_26_0 := u_43.1
  have ha_nm_26_0 := hq_43
  have hc_inl_0 := (u_43.2.1 (.inl 0) (by decide)).trans hc_inl_0
  have hc_nm_1_0 := (u_43.2.1 (nm 1 0) (nm_ne1 (by omega))).trans hc_nm_1_0
  have hc_nm_2_0 := (u_43.2.1 (nm 2 0) (nm_ne1 (by omega))).trans hc_nm_2_0
  have hc_nm_3_0 := (u_43.2.1 (nm 3 0) (nm_ne1 (by omega))).trans hc_nm_3_0
  have hc_nm_4_0 := (u_43.2.1 (nm 4 0) (nm_ne1 (by omega))).trans hc_nm_4_0
  have hc_nm_5_0 := (u_43.2.1 (nm 5 0) (nm_ne1 (by omega))).trans hc_nm_5_0
  have hc_nm_6_0 := (u_43.2.1 (nm 6 0) (nm_ne1 (by omega))).trans hc_nm_6_0
  have hc_nm_7_0 := (u_43.2.1 (nm 7 0) (nm_ne1 (by omega))).trans hc_nm_7_0
  have hc_nm_8_0 := (u_43.2.1 (nm 8 0) (nm_ne1 (by omega))).trans hc_nm_8_0
  have hc_nm_9_0 := (u_43.2.1 (nm 9 0) (nm_ne1 (by omega))).trans hc_nm_9_0
  have hc_nm_11_0 := (u_43.2.1 (nm 11 0) (nm_ne1 (by omega))).trans hc_nm_11_0
  have hc_nm_12_0 := (u_43.2.1 (nm 12 0) (nm_ne1 (by omega))).trans hc_nm_12_0
  have hc_nm_14_0 := (u_43.2.1 (nm 14 0) (nm_ne1 (by omega))).trans hc_nm_14_0
  have hc_nm_17_0 := (u_43.2.1 (nm 17 0) (nm_ne1 (by omega))).trans hc_nm_17_0
  have hc_nm_18_0 := (u_43.2.1 (nm 18 0) (nm_ne1 (by omega))).trans hc_nm_18_0
  have hc_nm_19_0 := (u_43.2.1 (nm 19 0) (nm_ne1 (by omega))).trans hc_nm_19_0
  have hc_nm_20_0 := (u_43.2.1 (nm 20 0) (nm_ne1 (by omega))).trans hc_nm_20_0
  have hc_nm_21_0 := (u_43.2.1 (nm 21 0) (nm_ne1 (by omega))).trans hc_nm_21_0
  have hc_nm_24_0 := (u_43.2.1 (nm 24 0) (nm_ne1 (by omega))).trans hc_nm_24_0
  have hc_nm_25_0 := (u_43.2.1 (nm 25 0) (nm_ne1 (by omega))).trans hc_nm_25_0
  have ha_inl_0 : _ = r0 := (hL_43 (.inl 0) (by decide)).trans ha_inl_0
  have ha_nm_1_0 : _ = q_5 := (hL_43 (nm 1 0) (nm_ne1 (by omega))).trans ha_nm_1_0
  have ha_nm_2_0 : _ = q_7 := (hL_43 (nm 2 0) (nm_ne1 (by omega))).trans ha_nm_2_0
  have ha_nm_3_0 : _ = q_9 := (hL_43 (nm 3 0) (nm_ne1 (by omega))).trans ha_nm_3_0
  have ha_nm_4_0 : _ = q_11 := (hL_43 (nm 4 0) (nm_ne1 (by omega))).trans ha_nm_4_0
  have ha_nm_5_0 : _ = q_13 := (hL_43 (nm 5 0) (nm_ne1 (by omega))).trans ha_nm_5_0
  have ha_nm_6_0 : _ = q_15 := (hL_43 (nm 6 0) (nm_ne1 (by omega))).trans ha_nm_6_0
  have ha_nm_7_0 : _ = q_17 := (hL_43 (nm 7 0) (nm_ne1 (by omega))).trans ha_nm_7_0
  have ha_nm_8_0 : _ = q_19 := (hL_43 (nm 8 0) (nm_ne1 (by omega))).trans ha_nm_8_0
  have ha_nm_9_0 : _ = q_21 := (hL_43 (nm 9 0) (nm_ne1 (by omega))).trans ha_nm_9_0
  have ha_nm_11_0 : _ = q_23 := (hL_43 (nm 11 0) (nm_ne1 (by omega))).trans ha_nm_11_0
  have ha_nm_12_0 : _ = q_25 := (hL_43 (nm 12 0) (nm_ne1 (by omega))).trans ha_nm_12_0
  have ha_nm_14_0 : _ = q_27 := (hL_43 (nm 14 0) (nm_ne1 (by omega))).trans ha_nm_14_0
  have ha_nm_17_0 : _ = q_29 := (hL_43 (nm 17 0) (nm_ne1 (by omega))).trans ha_nm_17_0
  have ha_nm_18_0 : _ = q_31 := (hL_43 (nm 18 0) (nm_ne1 (by omega))).trans ha_nm_18_0
  have ha_nm_19_0 : _ = q_33 := (hL_43 (nm 19 0) (nm_ne1 (by omega))).trans ha_nm_19_0
  have ha_nm_20_0 : _ = q_35 := (hL_43 (nm 20 0) (nm_ne1 (by omega))).trans ha_nm_20_0
  have ha_nm_21_0 : _ = q_37 := (hL_43 (nm 21 0) (nm_ne1 (by omega))).trans ha_nm_21_0
  have ha_nm_24_0 : _ = q_39 := (hL_43 (nm 24 0) (nm_ne1 (by omega))).trans ha_nm_24_0
  have ha_nm_25_0 : _ = q_41 := (hL_43 (nm 25 0) (nm_ne1 (by omega))).trans ha_nm_25_0
  have hM := u_43.2.2 hM
  refine c_putF (i := .inl 0) (ty := tyX10 26) (fs1 := [.int 0, .ref q_5, .ref q_7, .ref q_9, .ref q_11, .ref q_13, .ref q_15, .ref q_17, .ref q_19, .ref q_21, .int 0, .ref q_23, .ref q_25, .int 0, .ref q_27, .int 0, .int 0, .ref q_29, .ref q_31, .ref q_33, .ref q_35, .ref q_37, .int 0, .int 0, .ref q_39, .ref q_41, .ref q_43, .null, .int 0, .int 0, .int 0, .int 0, .int 0, .int 0, .int 0]) X hw hS ha_inl_0 hc_inl_0 rfl gX10 tyX10 tyX10_ok nmX10 26 (by decide) fl_X10_69 rfl rfl hnm rfl (tyX10_ok 26 (by decide)) rfl rfl (show 26 < 35 by decide) rfl dX10_init_168 (fun M_44 H locs u_44 hw hS => ?_)
  have hc_inl_0 := u_44.1
  have hc_nm_1_0 := (u_44.2.1 (nm 1 0) (by decide)).trans hc_nm_1_0
  have hc_nm_2_0 := (u_44.2.1 (nm 2 0) (by decide)).trans hc_nm_2_0
  have hc_nm_3_0 := (u_44.2.1 (nm 3 0) (by decide)).trans hc_nm_3_0
  have hc_nm_4_0 := (u_44.2.1 (nm 4 0) (by decide)).trans hc_nm_4_0
  have hc_nm_5_0 := (u_44.2.1 (nm 5 0) (by decide)).trans hc_nm_5_0
  have hc_nm_6_0 := (u_44.2.1 (nm 6 0) (by decide)).trans hc_nm_6_0
  have hc_nm_7_0 := (u_44.2.1 (nm 7 0) (by decide)).trans hc_nm_7_0
  have hc_nm_8_0 := (u_44.2.1 (nm 8 0) (by decide)).trans hc_nm_8_0
  have hc_nm_9_0 := (u_44.2.1 (nm 9 0) (by decide)).trans hc_nm_9_0
  have hc_nm_11_0 := (u_44.2.1 (nm 11 0) (by decide)).trans hc_nm_11_0
  have hc_nm_12_0 := (u_44.2.1 (nm 12 0) (by decide)).trans hc_nm_12_0
  have hc_nm_14_0 := (u_44.2.1 (nm 14 0) (by decide)).trans hc_nm_14_0
  have hc_nm_17_0 := (u_44.2.1 (nm 17 0) (by decide)).trans hc_nm_17_0
  have hc_nm_18_0 := (u_44.2.1 (nm 18 0) (by decide)).trans hc_nm_18_0
  have hc_nm_19_0 := (u_44.2.1 (nm 19 0) (by decide)).trans hc_nm_19_0
  have hc_nm_20_0 := (u_44.2.1 (nm 20 0) (by decide)).trans hc_nm_20_0
  have hc_nm_21_0 := (u_44.2.1 (nm 21 0) (by decide)).trans hc_nm_21_0
  have hc_nm_24_0 := (u_44.2.1 (nm 24 0) (by decide)).trans hc_nm_24_0
  have hc_nm_25_0 := (u_44.2.1 (nm 25 0) (by decide)).trans hc_nm_25_0
  have hc_nm_26_0 := (u_44.2.1 (nm 26 0) (by decide)).trans hc_nm_26_0
  have hM := u_44.2.2 hM
  refine lv_aload_n hx hb dX10_init_171 rfl (lv_at hl 0 rfl) ?_
  refine lv_sipush (v := 600) hx hb dX10_init_172 (by decide) ?_
  refine c_newl (N' := 600) X hw hS hM 27 0 (by decide) (by decide) (Nat.le_of_ble_eq_true rfl) (Nat.le_of_ble_eq_true rfl) (Nat.le_of_ble_eq_true rfl) dX10_init_175 (fun q_45 L_45 M_45 H hq_45 hL_45 u_45 hw hS => ?_)
  have hc_nm_27_0 := u_45.1
  have ha_nm_27_0 := hq_45
  have hc_inl_0 := (u_45.2.1 (.inl 0) (by decide)).trans hc_inl_0
  have hc_nm_1_0 := (u_45.2.1 (nm 1 0) (nm_ne1 (by omega))).trans hc_nm_1_0
  have hc_nm_2_0 := (u_45.2.1 (nm 2 0) (nm_ne1 (by omega))).trans hc_nm_2_0
  have hc_nm_3_0 := (u_45.2.1 (nm 3 0) (nm_ne1 (by omega))).trans hc_nm_3_0
  have hc_nm_4_0 := (u_45.2.1 (nm 4 0) (nm_ne1 (by omega))).trans hc_nm_4_0
  have hc_nm_5_0 := (u_45.2.1 (nm 5 0) (nm_ne1 (by omega))).trans hc_nm_5_0
  have hc_nm_6_0 := (u_45.2.1 (nm 6 0) (nm_ne1 (by omega))).trans hc_nm_6_0
  have hc_nm_7_0 := (u_45.2.1 (nm 7 0) (nm_ne1 (by omega))).trans hc_nm_7_0
  have hc_nm_8_0 := (u_45.2.1 (nm 8 0) (nm_ne1 (by omega))).trans hc_nm_8_0
  have hc_nm_9_0 := (u_45.2.1 (nm 9 0) (nm_ne1 (by omega))).trans hc_nm_9_0
  have hc_nm_11_0 := (u_45.2.1 (nm 11 0) (nm_ne1 (by omega))).trans hc_nm_11_0
  have hc_nm_12_0 := (u_45.2.1 (nm 12 0) (nm_ne1 (by omega))).trans hc_nm_12_0
  have hc_nm_14_0 := (u_45.2.1 (nm 14 0) (nm_ne1 (by omega))).trans hc_nm_14_0
  have hc_nm_17_0 := (u_45.2.1 (nm 17 0) (nm_ne1 (by omega))).trans hc_nm_17_0
  have hc_nm_18_0 := (u_45.2.1 (nm 18 0) (nm_ne1 (by omega))).trans hc_nm_18_0
  have hc_nm_19_0 := (u_45.2.1 (nm 19 0) (nm_ne1 (by omega))).trans hc_nm_19_0
  have hc_nm_20_0 := (u_45.2.1 (nm 20 0) (nm_ne1 (by omega))).trans hc_nm_20_0
  have hc_nm_21_0 := (u_45.2.1 (nm 21 0) (nm_ne1 (by omega))).trans hc_nm_21_0
  have hc_nm_24_0 := (u_45.2.1 (nm 24 0) (nm_ne1 (by omega))).trans hc_nm_24_0
  have hc_nm_25_0 := (u_45.2.1 (nm 25 0) (nm_ne1 (by omega))).trans hc_nm_25_0
  have hc_nm_26_0 := (u_45.2.1 (nm 26 0) (nm_ne1 (by omega))).trans hc_nm_26_0
  have ha_inl_0 : _ = r0 := (hL_45 (.inl 0) (by decide)).trans ha_inl_0
  have ha_nm_1_0 : _ = q_5 := (hL_45 (nm 1 0) (nm_ne1 (by omega))).trans ha_nm_1_0
  have ha_nm_2_0 : _ = q_7 := (hL_45 (nm 2 0) (nm_ne1 (by omega))).trans ha_nm_2_0
  have ha_nm_3_0 : _ = q_9 := (hL_45 (nm 3 0) (nm_ne1 (by omega))).trans ha_nm_3_0
  have ha_nm_4_0 : _ = q_11 := (hL_45 (nm 4 0) (nm_ne1 (by omega))).trans ha_nm_4_0
  have ha_nm_5_0 : _ = q_13 := (hL_45 (nm 5 0) (nm_ne1 (by omega))).trans ha_nm_5_0
  have ha_nm_6_0 : _ = q_15 := (hL_45 (nm 6 0) (nm_ne1 (by omega))).trans ha_nm_6_0
  have ha_nm_7_0 : _ = q_17 := (hL_45 (nm 7 0) (nm_ne1 (by omega))).trans ha_nm_7_0
  have ha_nm_8_0 : _ = q_19 := (hL_45 (nm 8 0) (nm_ne1 (by omega))).trans ha_nm_8_0
  have ha_nm_9_0 : _ = q_21 := (hL_45 (nm 9 0) (nm_ne1 (by omega))).trans ha_nm_9_0
  have ha_nm_11_0 : _ = q_23 := (hL_45 (nm 11 0) (nm_ne1 (by omega))).trans ha_nm_11_0
  have ha_nm_12_0 : _ = q_25 := (hL_45 (nm 12 0) (nm_ne1 (by omega))).trans ha_nm_12_0
  have ha_nm_14_0 : _ = q_27 := (hL_45 (nm 14 0) (nm_ne1 (by omega))).trans ha_nm_14_0
  have ha_nm_17_0 : _ = q_29 := (hL_45 (nm 17 0) (nm_ne1 (by omega))).trans ha_nm_17_0
  have ha_nm_18_0 : _ = q_31 := (hL_45 (nm 18 0) (nm_ne1 (by omega))).trans ha_nm_18_0
  have ha_nm_19_0 : _ = q_33 := (hL_45 (nm 19 0) (nm_ne1 (by omega))).trans ha_nm_19_0
  have ha_nm_20_0 : _ = q_35 := (hL_45 (nm 20 0) (nm_ne1 (by omega))).trans ha_nm_20_0
  have ha_nm_21_0 : _ = q_37 := (hL_45 (nm 21 0) (nm_ne1 (by omega))).trans ha_nm_21_0
  have ha_nm_24_0 : _ = q_39 := (hL_45 (nm 24 0) (nm_ne1 (by omega))).trans ha_nm_24_0
  have ha_nm_25_0 : _ = q_41 := (hL_45 (nm 25 0) (nm_ne1 (by omega))).trans ha_nm_25_0
  have ha_nm_26_0 : _ = q_43 := (hL_45 (nm 26 0) (nm_ne1 (by omega))).trans ha_nm_26_0
  have hM := u_45.2.2 hM
  refine c_putF (i := .inl 0) (ty := tyX10 27) (fs1 := [.int 0, .ref q_5, .ref q_7, .ref q_9, .ref q_11, .ref q_13, .ref q_15, .ref q_17, .ref q_19, .ref q_21, .int 0, .ref q_23, .ref q_25, .int 0, .ref q_27, .int 0, .int 0, .ref q_29, .ref q_31, .ref q_33, .ref q_35, .ref q_37, .int 0, .int 0, .ref q_39, .ref q_41, .ref q_43, .ref q_45, .int 0, .int 0, .int 0, .int 0, .int 0, .int 0, .int 0]) X hw hS ha_inl_0 hc_inl_0 rfl gX10 tyX10 tyX10_ok nmX10 27 (by decide) fl_X10_72 rfl rfl hnm rfl (tyX10_ok 27 (by decide)) rfl rfl (show 27 < 35 by decide) rfl dX10_init_177 (fun M_46 H locs u_46 hw hS => ?_)
  have hc_inl_0 := u_46.1
  have hc_nm_1_0 := (u_46.2.1 (nm 1 0) (by decide)).trans hc_nm_1_0
  have hc_nm_2_0 := (u_46.2.1 (nm 2 0) (by decide)).trans hc_nm_2_0
  have hc_nm_3_0 := (u_46.2.1 (nm 3 0) (by decide)).trans hc_nm_3_0
  have hc_nm_4_0 := (u_46.2.1 (nm 4 0) (by decide)).trans hc_nm_4_0
  have hc_nm_5_0 := (u_46.2.1 (nm 5 0) (by decide)).trans hc_nm_5_0
  have hc_nm_6_0 := (u_46.2.1 (nm 6 0) (by decide)).trans hc_nm_6_0
  have hc_nm_7_0 := (u_46.2.1 (nm 7 0) (by decide)).trans hc_nm_7_0
  have hc_nm_8_0 := (u_46.2.1 (nm 8 0) (by decide)).trans hc_nm_8_0
  have hc_nm_9_0 := (u_46.2.1 (nm 9 0) (by decide)).trans hc_nm_9_0
  have hc_nm_11_0 := (u_46.2.1 (nm 11 0) (by decide)).trans hc_nm_11_0
  have hc_nm_12_0 := (u_46.2.1 (nm 12 0) (by decide)).trans hc_nm_12_0
  have hc_nm_14_0 := (u_46.2.1 (nm 14 0) (by decide)).trans hc_nm_14_0
  have hc_nm_17_0 := (u_46.2.1 (nm 17 0) (by decide)).trans hc_nm_17_0
  have hc_nm_18_0 := (u_46.2.1 (nm 18 0) (by decide)).trans hc_nm_18_0
  have hc_nm_19_0 := (u_46.2.1 (nm 19 0) (by decide)).trans hc_nm_19_0
  have hc_nm_20_0 := (u_46.2.1 (nm 20 0) (by decide)).trans hc_nm_20_0
  have hc_nm_21_0 := (u_46.2.1 (nm 21 0) (by decide)).trans hc_nm_21_0
  have hc_nm_24_0 := (u_46.2.1 (nm 24 0) (by decide)).trans hc_nm_24_0
  have hc_nm_25_0 := (u_46.2.1 (nm 25 0) (by decide)).trans hc_nm_25_0
  have hc_nm_26_0 := (u_46.2.1 (nm 26 0) (by decide)).trans hc_nm_26_0
  have hc_nm_27_0 := (u_46.2.1 (nm 27 0) (by decide)).trans hc_nm_27_0
  have hM := u_46.2.2 hM
  refine lv_iconst (v := 0) hx hb dX10_init_180 (by decide) ?_
  refine lv_istore_n (lv' := [(1, .int 0), (0, .ref r0)]) hx hb dX10_init_181 rfl hl (by decide) rfl (fun ls hl => ?_)
  refine W.widen (k := 21) (n := 7820) (Nat.le_of_ble_eq_true rfl) (Nat.le_of_ble_eq_true rfl) ?_
  have hz : ∀ k e, k ≠ 11 → rA Γ (xz fun _ => 0) k 0 = some e → mget M_46 (nm k 0) = some e := by
    intro k e hk hv
    match k, hk, hv with
    | 0, _, hv => cases hv
    | 1, _, hv => cases hv; exact hc_nm_1_0
    | 2, _, hv => cases hv; exact hc_nm_2_0
    | 3, _, hv => cases hv; exact hc_nm_3_0
    | 4, _, hv => cases hv; exact hc_nm_4_0
    | 5, _, hv => cases hv; exact hc_nm_5_0
    | 6, _, hv => cases hv; exact hc_nm_6_0
    | 7, _, hv => cases hv; exact hc_nm_7_0
    | 8, _, hv => cases hv; exact hc_nm_8_0
    | 9, _, hv => cases hv; exact hc_nm_9_0
    | 10, _, hv => cases hv
    | 11, hk, _ => exact absurd rfl hk
    | 12, _, hv => cases hv; exact hc_nm_12_0
    | 13, _, hv => cases hv
    | 14, _, hv => cases hv; exact hc_nm_14_0
    | 15, _, hv => cases hv
    | 16, _, hv => cases hv
    | 17, _, hv => cases hv; exact hc_nm_17_0
    | 18, _, hv => cases hv; exact hc_nm_18_0
    | 19, _, hv => cases hv; exact hc_nm_19_0
    | 20, _, hv => cases hv; exact hc_nm_20_0
    | 21, _, hv => cases hv; exact hc_nm_21_0
    | 22, _, hv => cases hv
    | 23, _, hv => cases hv
    | 24, _, hv => cases hv; exact hc_nm_24_0
    | 25, _, hv => cases hv; exact hc_nm_25_0
    | 26, _, hv => cases hv; exact hc_nm_26_0
    | 27, _, hv => cases hv; exact hc_nm_27_0
    | _ + 28, _, hv => cases hv
  exact KL 40 0 _ _ _ _ _ _ ls rfl rfl hM ha_inl_0 (by rw [ha_nm_1_0, ha_nm_2_0, ha_nm_3_0, ha_nm_4_0, ha_nm_5_0, ha_nm_6_0, ha_nm_7_0, ha_nm_8_0, ha_nm_9_0, ha_nm_11_0, ha_nm_12_0, ha_nm_14_0, ha_nm_17_0, ha_nm_18_0, ha_nm_19_0, ha_nm_20_0, ha_nm_21_0, ha_nm_24_0, ha_nm_25_0, ha_nm_26_0, ha_nm_27_0]; exact hc_inl_0) hc_nm_11_0 hz (fun i hi => absurd hi (Nat.not_lt_zero i)) hw hS hl
