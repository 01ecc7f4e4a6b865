/-! THE REFERENCE'S MACHINE: a step -/
theorem last_lo {o : Int32} (h : o.toInt < 26) : r_last o = false := by
  unfold r_last
  have n : ∀ c : Int32, 26 ≤ c.toInt → ¬ o = c := fun c hc e => by rw [e] at h; omega
  simp [n 29 (by decide), n 32 (by decide), n 34 (by decide)]
theorem v_X10_works : mVm yX10_works cX10_works 7 (some .int) 0 := ⟨cd_X10_works, im_X10_works, se_X10_works, ini_X10, by decide, by decide, by decide +kernel⟩
set_option maxHeartbeats 4000000 in
set_option maxRecDepth 100000 in
theorem k_X10_works (Γ : mG) (l : Launch) (L : mI → Nat) (x : RS) (E : Ev) (f mk : Nat) (hE : EO E) (hI : MI E x f mk) : mMet Γ l yX10_works cX10_works 7 (some .int) { frames := 4, cells := 0, slots := 0, locals := 92 } [.ref (L (.inl 0))] L (rM Γ L x) (mQi Γ (fun r L1 M1 => ∃ (y : RS) (f1 mk1 : Nat), L1 = L ∧ M1 = rM Γ L y ∧ y.1 29 = x.1 29 ∧ ((r = 0 ∧ MI E y f1 mk1) ∨ (r = 20 ∧ CK E.1 y) ∨ (1 ≤ r.toInt ∧ r.toInt ≤ 9 ∧ FI E y f1 mk1)))) := by
  obtain ⟨hCK, hLW, k, i, hL, hV⟩ := hI
  obtain ⟨hk8, hrq, hty, hcl⟩ := hE k hL.2.2.1
  obtain ⟨hD8, h, z, hh, hop, hnx, hld, hhd⟩ := hty.2.2.2.2 i hL.2.2.2.1 hL.2.2.2.2.1
  have ho40 := hrq.2.1
  have hi40 : i < 40 := Nat.lt_of_lt_of_le hL.2.2.2.1 ho40
  have hVh : MV x f mk (h, eD E k i) := mvLe hV (fun p hp => by rw [hh p (by omega)]; exact vle_rf _)
  refine m_start (by decide) (Nat.le_of_ble_eq_true rfl) ?_
  intro p e s m args below meth c A ls X hr hlk hnm hw hS hl
  have hx := X.1.1
  have hb := X.1.2.1
  have hf0 : x.1 22 = nI f := hV.1
  have hf8 := hV.2.1
  have hl : lv_has ls 7 [(0, .ref (L (.inl 0)))] := hl
  refine lv_aload_n hx hb dX10_works_0 rfl (lv_at hl 0 rfl) ?_
  refine r_get20 X hw dX10_works_1 ?_
  refine lv_aload_n hx hb dX10_works_4 rfl (lv_at hl 0 rfl) ?_
  refine r_get22 X hw dX10_works_5 ?_
  refine r_ald20N (n := f) X hw hf0 (by omega) dX10_works_8 ?_
  refine lv_istore_n (lv' := [(1, .int (x.2.1 20 f)), (0, .ref (L (.inl 0)))]) hx hb dX10_works_9 rfl hl (by decide) rfl (fun ls hl => ?_)
  refine lv_aload_n hx hb dX10_works_10 rfl (lv_at hl 1 rfl) ?_
  refine r_get21 X hw dX10_works_11 ?_
  refine lv_aload_n hx hb dX10_works_14 rfl (lv_at hl 1 rfl) ?_
  refine r_get22 X hw dX10_works_15 ?_
  refine r_ald21N (n := f) X hw hf0 (by omega) dX10_works_18 ?_
  refine lv_istore_n (lv' := [(2, .int (x.2.1 21 f)), (1, .int (x.2.1 20 f)), (0, .ref (L (.inl 0)))]) hx hb dX10_works_19 rfl hl (by decide) rfl (fun ls hl => ?_)
  refine lv_aload_n hx hb dX10_works_20 rfl (lv_at hl 2 rfl) ?_
  refine r_get3 X hw dX10_works_21 ?_
  refine lv_bipush (v := 40) hx hb dX10_works_24 (by decide) ?_
  refine lv_iload_n hx hb dX10_works_26 rfl (lv_at hl 1 rfl) ?_
  refine lv_imul hx hb dX10_works_27 ?_
  refine lv_iload_n hx hb dX10_works_28 rfl (lv_at hl 0 rfl) ?_
  refine lv_iadd hx hb dX10_works_29 ?_
  refine r_ald3N (n := (40 * k) + i) X hw (nadd (a := 40 * k) (b := i) (nmul (a := 40) (b := k) rfl hL.1) hL.2.1) (by omega) dX10_works_30 ?_
  refine lv_topi (fun oo eo => ?_)
  refine lv_istore_n (lv' := [(3, .int oo), (2, .int (x.2.1 21 f)), (1, .int (x.2.1 20 f)), (0, .ref (L (.inl 0)))]) hx hb dX10_works_31 rfl hl (by decide) rfl (fun ls hl => ?_)
  refine lv_aload_n hx hb dX10_works_32 rfl (lv_at hl 3 rfl) ?_
  refine r_get4 X hw dX10_works_33 ?_
  refine lv_bipush (v := 40) hx hb dX10_works_36 (by decide) ?_
  refine lv_iload_n hx hb dX10_works_38 rfl (lv_at hl 2 rfl) ?_
  refine lv_imul hx hb dX10_works_39 ?_
  refine lv_iload_n hx hb dX10_works_40 rfl (lv_at hl 1 rfl) ?_
  refine lv_iadd hx hb dX10_works_41 ?_
  refine r_ald4N (n := (40 * k) + i) X hw (nadd (a := 40 * k) (b := i) (nmul (a := 40) (b := k) rfl hL.1) hL.2.1) (by omega) dX10_works_42 ?_
  refine lv_topl (fun aa ea => ?_)
  have eo2 : oo = eOp E k i := eo.trans (congrFun (hCK.1 3 (by decide)) _)
  have ea2 : aa = eA E k i := ea.trans (congrFun hCK.2.2 _)
  have hop : p_op (fun j => E.1.2.1 3 (40 * k + j)) (fun j => E.1.2.2 4 (40 * k + j)) k (oM E.1 k) (pM E.1) (nI i) oo aa (h, eD E k i) = some z := by rw [eo2, ea2]; exact hop
  rw [← eo2] at hnx hld
  rw [← ea2] at hld
  refine lv_lstore (lv' := [(4, .long aa), (3, .int oo), (2, .int (x.2.1 21 f)), (1, .int (x.2.1 20 f)), (0, .ref (L (.inl 0)))]) hx hb dX10_works_43 hl (by decide) rfl (fun ls hl => ?_)
  refine lv_iload_n hx hb dX10_works_45 rfl (lv_at hl 1 rfl) ?_
  refine lv_bipush (v := 14) hx hb dX10_works_46 (by decide) ?_
  refine lv_icmp_ge (tgt := 61) hx hb dX10_works_48 (by decide) (fun c_1 => ?_) (fun c_1 => ?_)
  · skip
    refine lv_iload_n hx hb dX10_works_61 rfl (lv_at hl 1 rfl) ?_
    refine lv_bipush (v := 26) hx hb dX10_works_62 (by decide) ?_
    refine lv_icmp_ge (tgt := 77) hx hb dX10_works_64 (by decide) (fun c_2 => ?_) (fun c_2 => ?_)
    · skip
      refine lv_aload_n hx hb dX10_works_77 rfl (lv_at hl 4 rfl) ?_
      refine lv_iload_n hx hb dX10_works_78 rfl (lv_at hl 1 rfl) ?_
      refine lv_lload hx hb dX10_works_79 (lv_at hl 0 rfl) ?_
      have h26 : 26 ≤ oo.toInt := Int32.le_iff_toInt_le.mp c_2
      refine m_calli (m_runV (i := .inl 0) (ci := 8) (As := [.int oo, .long aa]) (rest := []) X (k_X10_others Γ l L x oo aa E f mk k i (h, eD E k i) z _ _ hE hCK hLW hL hVh hop h26 hnx hld (fun e9 t h9 => hcl i hL.2.2.2.1 (eo2.symm.trans e9) t (ea2.symm.trans h9))) v_X10_others ml_X10_287 hw hS rfl rfl rfl rfl hl.1 ⟨Nat.le_of_ble_eq_true rfl, Nat.le_of_ble_eq_true rfl⟩ (Nat.le_of_ble_eq_true rfl) ⟨Nat.le_of_ble_eq_true rfl, Nat.le_of_ble_eq_true rfl⟩ dX10_works_81) hS (fun r_3 L1 M1 H locs hp_3 hw hS => ?_)
      obtain ⟨y, f1, e1, e2, h29, hcs⟩ := hp_3
      rw [e1, e2] at hw; clear e1 e2
      rcases hcs with ⟨e0, hmr, hmo, hV1, hla⟩ | ⟨e0, hMI⟩ | ⟨e0, hC⟩ | ⟨e0, hF⟩
      · subst e0
        refine lv_istore (lv' := [(6, .int 0), (4, .long aa), (3, .int oo), (2, .int (x.2.1 21 f)), (1, .int (x.2.1 20 f)), (0, .ref (L (.inl 0)))]) hx hb dX10_works_84 hl (by decide) rfl (fun ls hl => ?_)
        refine lv_iload hx hb dX10_works_86 (lv_at hl 0 rfl) ?_
        refine lv_if_ne (tgt := 104) hx hb dX10_works_88 (by decide) (fun h => absurd rfl h) (fun _ => ?_)
        refine lv_aload_n hx hb dX10_works_91 rfl (lv_at hl 5 rfl) ?_
        refine r_get21 X hw dX10_works_92 ?_
        refine lv_aload_n hx hb dX10_works_95 rfl (lv_at hl 5 rfl) ?_
        refine r_get22 X hw dX10_works_96 ?_
        refine lv_dup2_11 hx hb dX10_works_99 rfl rfl ?_
        refine r_ald21N (n := f) X hw hV1.1 (by omega) dX10_works_100 ?_
        refine lv_iconst (v := 1) hx hb dX10_works_101 (by decide) ?_
        refine lv_iadd hx hb dX10_works_102 ?_
        refine lv_topi (fun v_5 ev_5 => ?_)
        obtain rfl : v_5 = nI (i + 1) := ev_5.trans (nadd (a := i) (b := 1) ((congrFun (hmr.1 21 (by decide) (by decide) (by decide) (by decide)) f).trans hL.2.1) rfl)
        clear ev_5
        refine r_ast21N (n := f) X hw hS hV1.1 (by omega) dX10_works_103 (fun H locs hw hS => ?_)
        refine lv_iload hx hb dX10_works_104 (lv_at hl 0 rfl) ?_
        refine lv_bipush (v := 21) hx hb dX10_works_106 (by decide) ?_
        refine lv_icmp_ne (tgt := 115) hx hb dX10_works_108 (by decide) (fun c_6 => ?_) (fun c_6 => ?_)
        · skip
          have c_6n : ¬ 0 = 21 := nneT (a := 0) (b := 21) rfl rfl (by omega) (by omega) c_6
          refine lv_iload hx hb dX10_works_115 (lv_at hl 0 rfl) ?_
          exact m_iret X hr hlk hw hS (Nat.zero_le _) (Nat.zero_le _) ⟨_, f, mk, rfl, rfl, h29, Or.inl ⟨rfl, MI_to (CK_mr hCK hmr) (LW_lw hLW (lw_mr hmr hmo)) ((congrFun (hmr.1 20 (by decide) (by decide) (by decide) (by decide)) f).trans hL.1) hL.2.2.1 hL.2.2.2.2.2.1 hV1 (hnx hla)⟩⟩ dX10_works_117
        · skip
          exact absurd c_6 (by decide)
      · subst e0
        refine lv_istore (lv' := [(6, .int 21), (4, .long aa), (3, .int oo), (2, .int (x.2.1 21 f)), (1, .int (x.2.1 20 f)), (0, .ref (L (.inl 0)))]) hx hb dX10_works_84 hl (by decide) rfl (fun ls hl => ?_)
        refine lv_iload hx hb dX10_works_86 (lv_at hl 0 rfl) ?_
        refine lv_if_ne (tgt := 104) hx hb dX10_works_88 (by decide) (fun _ => ?_) (fun h => absurd h (by decide))
        refine lv_iload hx hb dX10_works_104 (lv_at hl 0 rfl) ?_
        refine lv_bipush (v := 21) hx hb dX10_works_106 (by decide) ?_
        refine lv_icmp_ne (tgt := 115) hx hb dX10_works_108 (by decide) (fun c_8 => ?_) (fun c_8 => ?_)
        · skip
          exact absurd c_8 (by decide)
        · skip
          have c_8n : 21 = 21 := nneF (a := 21) (b := 21) rfl rfl (by omega) (by omega) c_8
          refine lv_iconst (v := 0) hx hb dX10_works_111 (by decide) ?_
          refine lv_goto (tgt := 117) hx hb dX10_works_112 (by decide) ?_
          exact m_iret X hr hlk hw hS (Nat.zero_le _) (Nat.zero_le _) ⟨_, f1, mk, rfl, rfl, h29, Or.inl ⟨rfl, hMI⟩⟩ dX10_works_117
      · subst e0
        refine lv_istore (lv' := [(6, .int 20), (4, .long aa), (3, .int oo), (2, .int (x.2.1 21 f)), (1, .int (x.2.1 20 f)), (0, .ref (L (.inl 0)))]) hx hb dX10_works_84 hl (by decide) rfl (fun ls hl => ?_)
        refine lv_iload hx hb dX10_works_86 (lv_at hl 0 rfl) ?_
        refine lv_if_ne (tgt := 104) hx hb dX10_works_88 (by decide) (fun _ => ?_) (fun h => absurd h (by decide))
        refine lv_iload hx hb dX10_works_104 (lv_at hl 0 rfl) ?_
        refine lv_bipush (v := 21) hx hb dX10_works_106 (by decide) ?_
        refine lv_icmp_ne (tgt := 115) hx hb dX10_works_108 (by decide) (fun c_10 => ?_) (fun c_10 => ?_)
        · skip
          have c_10n : ¬ 20 = 21 := nneT (a := 20) (b := 21) rfl rfl (by omega) (by omega) c_10
          refine lv_iload hx hb dX10_works_115 (lv_at hl 0 rfl) ?_
          exact m_iret X hr hlk hw hS (Nat.zero_le _) (Nat.zero_le _) ⟨_, f, mk, rfl, rfl, h29, Or.inr (Or.inl ⟨rfl, hC⟩)⟩ dX10_works_117
        · skip
          exact absurd c_10 (by decide)
      · subst e0
        refine lv_istore (lv' := [(6, .int 7), (4, .long aa), (3, .int oo), (2, .int (x.2.1 21 f)), (1, .int (x.2.1 20 f)), (0, .ref (L (.inl 0)))]) hx hb dX10_works_84 hl (by decide) rfl (fun ls hl => ?_)
        refine lv_iload hx hb dX10_works_86 (lv_at hl 0 rfl) ?_
        refine lv_if_ne (tgt := 104) hx hb dX10_works_88 (by decide) (fun _ => ?_) (fun h => absurd h (by decide))
        refine lv_iload hx hb dX10_works_104 (lv_at hl 0 rfl) ?_
        refine lv_bipush (v := 21) hx hb dX10_works_106 (by decide) ?_
        refine lv_icmp_ne (tgt := 115) hx hb dX10_works_108 (by decide) (fun c_12 => ?_) (fun c_12 => ?_)
        · skip
          have c_12n : ¬ 7 = 21 := nneT (a := 7) (b := 21) rfl rfl (by omega) (by omega) c_12
          refine lv_iload hx hb dX10_works_115 (lv_at hl 0 rfl) ?_
          exact m_iret X hr hlk hw hS (Nat.zero_le _) (Nat.zero_le _) ⟨_, f, mk, rfl, rfl, h29, Or.inr (Or.inr ⟨by decide, by decide, hF⟩)⟩ dX10_works_117
        · skip
          exact absurd c_12 (by decide)
    · skip
      refine lv_aload_n hx hb dX10_works_67 rfl (lv_at hl 4 rfl) ?_
      refine lv_iload_n hx hb dX10_works_68 rfl (lv_at hl 1 rfl) ?_
      refine lv_lload hx hb dX10_works_69 (lv_at hl 0 rfl) ?_
      have h14 : 14 ≤ oo.toInt := Int32.le_iff_toInt_le.mp c_1
      have h26 : oo.toInt < 26 := Int32.lt_iff_toInt_lt.mp (Int32.not_le.mp c_2)
      refine m_calli (m_runV (i := .inl 0) (ci := 8) (As := [.int oo, .long aa]) (rest := []) X (k_X10_ofThings Γ l L x oo aa f mk i k (oM E.1 k) (pM E.1) _ _ (nI i) (h, eD E k i) z rfl hi40 ho40 hVh hop h14 h26) v_X10_ofThings ml_X10_284 hw hS rfl rfl rfl rfl hl.1 ⟨Nat.le_of_ble_eq_true rfl, Nat.le_of_ble_eq_true rfl⟩ (Nat.le_of_ble_eq_true rfl) ⟨Nat.le_of_ble_eq_true rfl, Nat.le_of_ble_eq_true rfl⟩ dX10_works_71) hS (fun r_13 L1 M1 H locs hp_13 hw hS => ?_)
      obtain ⟨y, mk1, e1, e2, hmr, hmo, hTH, hcs⟩ := hp_13
      rw [e1, e2] at hw; clear e1 e2
      have h29 : y.1 29 = x.1 29 := hmr.2.1 29 (by decide)
      have hla : r_last oo = false := last_lo (by omega)
      rcases hcs with ⟨e0, hV1⟩ | ⟨h1, h9, hlo⟩
      · subst e0
        refine lv_goto (tgt := 84) hx hb dX10_works_74 (by decide) ?_
        refine lv_istore (lv' := [(6, .int 0), (4, .long aa), (3, .int oo), (2, .int (x.2.1 21 f)), (1, .int (x.2.1 20 f)), (0, .ref (L (.inl 0)))]) hx hb dX10_works_84 hl (by decide) rfl (fun ls hl => ?_)
        refine lv_iload hx hb dX10_works_86 (lv_at hl 0 rfl) ?_
        refine lv_if_ne (tgt := 104) hx hb dX10_works_88 (by decide) (fun h => absurd rfl h) (fun _ => ?_)
        refine lv_aload_n hx hb dX10_works_91 rfl (lv_at hl 5 rfl) ?_
        refine r_get21 X hw dX10_works_92 ?_
        refine lv_aload_n hx hb dX10_works_95 rfl (lv_at hl 5 rfl) ?_
        refine r_get22 X hw dX10_works_96 ?_
        refine lv_dup2_11 hx hb dX10_works_99 rfl rfl ?_
        refine r_ald21N (n := f) X hw hV1.1 (by omega) dX10_works_100 ?_
        refine lv_iconst (v := 1) hx hb dX10_works_101 (by decide) ?_
        refine lv_iadd hx hb dX10_works_102 ?_
        refine lv_topi (fun v_15 ev_15 => ?_)
        obtain rfl : v_15 = nI (i + 1) := ev_15.trans (nadd (a := i) (b := 1) ((congrFun (hmr.1 21 (by decide) (by decide) (by decide) (by decide)) f).trans hL.2.1) rfl)
        clear ev_15
        refine r_ast21N (n := f) X hw hS hV1.1 (by omega) dX10_works_103 (fun H locs hw hS => ?_)
        refine lv_iload hx hb dX10_works_104 (lv_at hl 0 rfl) ?_
        refine lv_bipush (v := 21) hx hb dX10_works_106 (by decide) ?_
        refine lv_icmp_ne (tgt := 115) hx hb dX10_works_108 (by decide) (fun c_16 => ?_) (fun c_16 => ?_)
        · skip
          have c_16n : ¬ 0 = 21 := nneT (a := 0) (b := 21) rfl rfl (by omega) (by omega) c_16
          refine lv_iload hx hb dX10_works_115 (lv_at hl 0 rfl) ?_
          exact m_iret X hr hlk hw hS (Nat.zero_le _) (Nat.zero_le _) ⟨_, f, mk1, rfl, rfl, h29, Or.inl ⟨rfl, MI_to (CK_mr hCK hmr) (LW_lw hLW (lw_mr hmr hmo)) ((congrFun (hmr.1 20 (by decide) (by decide) (by decide) (by decide)) f).trans hL.1) hL.2.2.1 hL.2.2.2.2.2.1 hV1 (hnx hla)⟩⟩ dX10_works_117
        · skip
          exact absurd c_16 (by decide)
      · skip
        refine lv_goto (tgt := 84) hx hb dX10_works_74 (by decide) ?_
        refine lv_istore (lv' := [(6, .int r_13), (4, .long aa), (3, .int oo), (2, .int (x.2.1 21 f)), (1, .int (x.2.1 20 f)), (0, .ref (L (.inl 0)))]) hx hb dX10_works_84 hl (by decide) rfl (fun ls hl => ?_)
        refine lv_iload hx hb dX10_works_86 (lv_at hl 0 rfl) ?_
        refine lv_if_ne (tgt := 104) hx hb dX10_works_88 (by decide) (fun _ => ?_) (fun c => absurd h1 (by rw [c]; decide))
        refine lv_iload hx hb dX10_works_104 (lv_at hl 0 rfl) ?_
        refine lv_bipush (v := 21) hx hb dX10_works_106 (by decide) ?_
        refine lv_icmp_ne (tgt := 115) hx hb dX10_works_108 (by decide) (fun _ => ?_) (fun c => absurd h9 (by rw [c]; decide))
        refine lv_iload hx hb dX10_works_115 (lv_at hl 0 rfl) ?_
        exact m_iret X hr hlk hw hS (Nat.zero_le _) (Nat.zero_le _) ⟨_, f, mk1, rfl, rfl, h29, Or.inr (Or.inr ⟨h1, h9, CK_mr hCK hmr, LW_lw hLW (lw_mr hmr hmo), ⟨k, i, LB_mr hL hmr hmo hlo⟩, (hmr.2.1 22 (by decide)).trans hf0, hf8, hTH⟩)⟩ dX10_works_117
  · skip
    refine lv_aload_n hx hb dX10_works_51 rfl (lv_at hl 4 rfl) ?_
    refine lv_iload_n hx hb dX10_works_52 rfl (lv_at hl 1 rfl) ?_
    refine lv_lload hx hb dX10_works_53 (lv_at hl 0 rfl) ?_
    have h14 : oo.toInt < 14 := Int32.lt_iff_toInt_lt.mp (Int32.not_le.mp c_1)
    refine m_calli (m_runV (i := .inl 0) (ci := 8) (As := [.int oo, .long aa]) (rest := []) X (k_X10_simple Γ l L x oo aa f mk i k (oM E.1 k) (pM E.1) _ _ (nI i) (h, eD E k i) z rfl hi40 ho40 hVh hop h14) v_X10_simple ml_X10_280 hw hS rfl rfl rfl rfl hl.1 ⟨Nat.le_of_ble_eq_true rfl, Nat.le_of_ble_eq_true rfl⟩ (Nat.le_of_ble_eq_true rfl) ⟨Nat.le_of_ble_eq_true rfl, Nat.le_of_ble_eq_true rfl⟩ dX10_works_55) hS (fun r_17 L1 M1 H locs hp_17 hw hS => ?_)
    obtain ⟨y, mk1, e1, e2, hmr, hmo, hTH, hcs⟩ := hp_17
    rw [e1, e2] at hw; clear e1 e2
    have h29 : y.1 29 = x.1 29 := hmr.2.1 29 (by decide)
    have hla : r_last oo = false := last_lo (by omega)
    rcases hcs with ⟨e0, hV1⟩ | ⟨h1, h9, hlo⟩
    · subst e0
      refine lv_goto (tgt := 84) hx hb dX10_works_58 (by decide) ?_
      refine lv_istore (lv' := [(6, .int 0), (4, .long aa), (3, .int oo), (2, .int (x.2.1 21 f)), (1, .int (x.2.1 20 f)), (0, .ref (L (.inl 0)))]) hx hb dX10_works_84 hl (by decide) rfl (fun ls hl => ?_)
      refine lv_iload hx hb dX10_works_86 (lv_at hl 0 rfl) ?_
      refine lv_if_ne (tgt := 104) hx hb dX10_works_88 (by decide) (fun h => absurd rfl h) (fun _ => ?_)
      refine lv_aload_n hx hb dX10_works_91 rfl (lv_at hl 5 rfl) ?_
      refine r_get21 X hw dX10_works_92 ?_
      refine lv_aload_n hx hb dX10_works_95 rfl (lv_at hl 5 rfl) ?_
      refine r_get22 X hw dX10_works_96 ?_
      refine lv_dup2_11 hx hb dX10_works_99 rfl rfl ?_
      refine r_ald21N (n := f) X hw hV1.1 (by omega) dX10_works_100 ?_
      refine lv_iconst (v := 1) hx hb dX10_works_101 (by decide) ?_
      refine lv_iadd hx hb dX10_works_102 ?_
      refine lv_topi (fun v_19 ev_19 => ?_)
      obtain rfl : v_19 = nI (i + 1) := ev_19.trans (nadd (a := i) (b := 1) ((congrFun (hmr.1 21 (by decide) (by decide) (by decide) (by decide)) f).trans hL.2.1) rfl)
      clear ev_19
      refine r_ast21N (n := f) X hw hS hV1.1 (by omega) dX10_works_103 (fun H locs hw hS => ?_)
      refine lv_iload hx hb dX10_works_104 (lv_at hl 0 rfl) ?_
      refine lv_bipush (v := 21) hx hb dX10_works_106 (by decide) ?_
      refine lv_icmp_ne (tgt := 115) hx hb dX10_works_108 (by decide) (fun c_20 => ?_) (fun c_20 => ?_)
      · skip
        have c_20n : ¬ 0 = 21 := nneT (a := 0) (b := 21) rfl rfl (by omega) (by omega) c_20
        refine lv_iload hx hb dX10_works_115 (lv_at hl 0 rfl) ?_
        exact m_iret X hr hlk hw hS (Nat.zero_le _) (Nat.zero_le _) ⟨_, f, mk1, rfl, rfl, h29, Or.inl ⟨rfl, MI_to (CK_mr hCK hmr) (LW_lw hLW (lw_mr hmr hmo)) ((congrFun (hmr.1 20 (by decide) (by decide) (by decide) (by decide)) f).trans hL.1) hL.2.2.1 hL.2.2.2.2.2.1 hV1 (hnx hla)⟩⟩ dX10_works_117
      · skip
        exact absurd c_20 (by decide)
    · skip
      refine lv_goto (tgt := 84) hx hb dX10_works_58 (by decide) ?_
      refine lv_istore (lv' := [(6, .int r_17), (4, .long aa), (3, .int oo), (2, .int (x.2.1 21 f)), (1, .int (x.2.1 20 f)), (0, .ref (L (.inl 0)))]) hx hb dX10_works_84 hl (by decide) rfl (fun ls hl => ?_)
      refine lv_iload hx hb dX10_works_86 (lv_at hl 0 rfl) ?_
      refine lv_if_ne (tgt := 104) hx hb dX10_works_88 (by decide) (fun _ => ?_) (fun c => absurd h1 (by rw [c]; decide))
      refine lv_iload hx hb dX10_works_104 (lv_at hl 0 rfl) ?_
      refine lv_bipush (v := 21) hx hb dX10_works_106 (by decide) ?_
      refine lv_icmp_ne (tgt := 115) hx hb dX10_works_108 (by decide) (fun _ => ?_) (fun c => absurd h9 (by rw [c]; decide))
      refine lv_iload hx hb dX10_works_115 (lv_at hl 0 rfl) ?_
      exact m_iret X hr hlk hw hS (Nat.zero_le _) (Nat.zero_le _) ⟨_, f, mk1, rfl, rfl, h29, Or.inr (Or.inr ⟨h1, h9, CK_mr hCK hmr, LW_lw hLW (lw_mr hmr hmo), ⟨k, i, LB_mr hL hmr hmo hlo⟩, (hmr.2.1 22 (by decide)).trans hf0, hf8, hTH⟩)⟩ dX10_works_117
