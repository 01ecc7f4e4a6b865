/-! THE CLASS'S JOINING held against the reference's -/
theorem comes_jk {x : RS} {om : Nat} {b : Int32} {z : PL} {cb : Bool} (ho : om ≤ 40) (hz : z.2 ≤ 8) (h : x.1 16 = bI cb) : jk x (r_comes x om b z).2 := by
  obtain ⟨c1, h1, -⟩ := comes_jR (y := x) (om := om) (b := b) (q := z) (cb := cb) ho hz h
  exact h1.1
theorem comes_17 {x : RS} {om : Nat} {b : Int32} {z : PL} {cb : Bool} (ho : om ≤ 40) (hz : z.2 ≤ 8) (h : x.1 16 = bI cb) : (r_comes x om b z).2.2.1 17 = x.2.1 17 := by
  obtain ⟨c1, h1, -⟩ := comes_jR (y := x) (om := om) (b := b) (q := z) (cb := cb) ho hz h
  exact h1.2.2.2.2.2.2.2.1
theorem sP_V {c : CS} {a b : Nat} {q : PL} : (sP c a b q).2.1 a (b + 1) = q.1 := by
  show up3 c.2.1 a (b + 1) q.1 a (b + 1) = _
  exact up3_self
theorem ag_sP {c : CS} {h : Nat → Int32} {d : Nat} {z : PL} (ha : agr (h, d) z) : agr ((sP c 0 8 (h, d)).2.1 0 9, d) z := by
  rw [show (sP c 0 8 (h, d)).2.1 0 9 = h from sP_V (b := 8)]
  exact ha
theorem CA_0 {c : CS} {x : RS} {b : Nat} {q : PL} (h : CA c x) : CA (sP c 0 b q) x := by
  intro i hi
  have e1 : (sP c 0 b q).1 1 (2 * i) 1 = c.1 1 (2 * i) 1 := sP_rdS (by omega)
  have e2 : (sP c 0 b q).2.1 1 (2 * i + 1) = c.2.1 1 (2 * i + 1) := sP_ne2 (by omega)
  rw [e1, e2]
  exact h i hi
theorem CA_7 {c : CS} {x : RS} {b k : Nat} {v : Int32} (h : CA c x) : CA (tS c 0 b k v) x := by
  intro i hi
  have e1 : (tS c 0 b k v).1 1 (2 * i) 1 = c.1 1 (2 * i) 1 := tS_rd (by omega)
  rw [e1]
  exact h i hi
theorem ok_ct {f g e : Nat → Int32} {d : Nat} (ok : okP (f, d)) (h0 : ∀ j, j < 8 → e j = f j) (h1 : ∀ j, j < 8 → g j = e j) (h8 : g 8 = 1) : okP (g, 1) := by
  refine ⟨fun j hj => ?_, ok.2.cong (fun j hj => (h1 j hj).trans (h0 j hj))⟩
  have hj : j < 8 + 1 := hj
  by_cases w : j = 8
  · show r_isKind (g j) = true
    rw [w, h8]; decide
  · show r_isKind (g j) = true
    rw [h1 j (by omega), h0 j (by omega)]
    exact ok.1 j (by show j < 8 + d; omega)
theorem ct_ag {y : CS} {xr x2 : RS} {h2 : Nat → Int32} (hc : y.1 0 5 1 = nI 1 ∧ (∀ i, i < 8 → y.2.1 0 6 i = xr.2.1 17 i) ∧ y.2.1 0 6 8 = 1) (h17 : x2.2.1 17 = xr.2.1 17) (h28 : ∀ j, j < 8 → h2 j = x2.2.1 17 j) (h2e : h2 8 = 1) : ∀ j, j < 8 + 1 → y.2.1 0 (5 + 1) j = h2 j := by
  intro j hj
  by_cases w : j = 8
  · rw [w, h2e]; exact hc.2.2
  · rw [h28 j (by omega), h17]
    exact hc.2.1 j (by omega)
theorem ct_keep {y y1 : CS} {xr : RS} (hc : y.1 0 5 1 = nI 1 ∧ (∀ i, i < 8 → y.2.1 0 6 i = xr.2.1 17 i) ∧ y.2.1 0 6 8 = 1) (h : kA y y1) : y1.1 0 5 1 = nI 1 ∧ (∀ i, i < 8 → y1.2.1 0 6 i = xr.2.1 17 i) ∧ y1.2.1 0 6 8 = 1 := by
  rw [(h 5 (by decide)).1, (h 6 (by decide)).2]
  exact hc
theorem ct_new {y : CS} {xr : RS} {g : Nat → Int32} (h : ∀ i, i < 8 → g i = xr.2.1 17 i) (h8 : g 8 = 1) : (sP y 0 5 (g, 1)).1 0 5 1 = nI 1 ∧ (∀ i, i < 8 → (sP y 0 5 (g, 1)).2.1 0 6 i = xr.2.1 17 i) ∧ (sP y 0 5 (g, 1)).2.1 0 6 8 = 1 := by
  have e : (sP y 0 5 (g, 1)).2.1 0 6 = g := sP_V (b := 5)
  rw [e]
  exact ⟨sP_dep, h, h8⟩
theorem ld_pos {u a o : Int32} (h : u = if r_leads o = true then a else -1) (c : 0 ≤ u) : r_leads o = true := by
  by_cases z : r_leads o = true
  · exact z
  · rw [if_neg z] at h
    subst h
    exact absurd c (by decide)
theorem ld_neg {k om kn e1 : Nat} {pm : Nat → Nat} {x : RS} {h : Nat → Int32} {z : PL} {u : Int32} (ho : om < 1000) (hz : r_code x k om pm kn (p_takes x kn h, e1) = some z) (hu : u = if r_leads (x.2.1 3 (40 * k + kn)) = true then (x.2.2 4 (40 * k + kn)).toInt32 else -1) (c : u < 0) : r_leads (x.2.1 3 (40 * k + kn)) = false := by
  cases e : r_leads (x.2.1 3 (40 * k + kn)) with
  | false => rfl
  | true =>
    obtain ⟨tt, htt, hvt⟩ := p_op_lead ho e hz
    rw [e, if_pos rfl, hvt, lN_i] at hu
    rw [hu] at c
    exact absurd c (nI_n0 (by omega))
theorem CA_f {c : CS} {x : RS} (h1 : ∀ i, i < 40 → c.1 1 (2 * i) 1 = -1) (h2 : ∀ i, i < 40 → x.2.1 11 i = -1) : CA c x := by
  intro i hi
  rw [h1 i hi, h2 i hi]
  refine ⟨rfl, fun d hd e => ?_⟩
  have := nI_n0 (n := d) (by omega)
  rw [← e] at this
  exact absurd (by decide) this
theorem forget_11 {x : RS} : ∀ i, i < 40 → (sS (r_forget x) 13 0).2.1 11 i = -1 := by
  intro i hi
  have e : (r_forget x).2.1 11 = fmA (x.2.1 11) 0 (-1) 40 := by
    show va_up x.2.1 11 (fmA (x.2.1 11) 0 (-1) 40) 11 = _
    simp [va_up]
  show (r_forget x).2.1 11 i = -1
  rw [e, fmA_in hi]
theorem begin_at {pm : Nat} {h : Nat → Int32} {j : Nat} (hj : j < 16) : p_begin pm h j = if j < pm then 1 else 0 := by
  unfold p_begin
  have := cpA_in (f := h) (g := fun k => if k < pm then (1 : Int32) else 0) (o := 0) (p := j) (n := 16) hj
  rw [Nat.zero_add] at this
  exact this
theorem ok_begin {pm : Nat} {h : Nat → Int32} : okP (p_begin pm h, 0) := by
  have v : ∀ j, j < 16 → p_begin pm h j ≠ 2 ∧ p_begin pm h j ≠ 3 ∧ r_isKind (p_begin pm h j) = true := by
    intro j hj
    rw [begin_at hj]
    by_cases c : j < pm
    · rw [if_pos c]; decide
    · rw [if_neg c]; decide
  refine ⟨fun j hj => (v j (by have hj : j < 8 + 0 := hj; omega)).2.2, fun j hj => ⟨fun e => absurd e (v j (by omega)).1, fun e => absurd e (v (j + 1) (by omega)).2.1⟩, (v 7 (by decide)).1, (v 0 (by decide)).2.1⟩
theorem CA_cm {c : CS} {x : RS} {i : Nat} (h : CA c x) : CA c (cmF x i 8) := by
  have hc := cmF_cR (x := x) (i := i)
  intro k hk
  unfold rowR
  rw [hc.1 11 (by decide), hc.1 12 (by decide)]
  exact h k hk
theorem verd_i {i : Nat} (h : i < 1000) : r_verdict (jv (some i)) = 1 + nI i := by
  unfold r_verdict
  rw [if_neg (show ¬ jv (some i) < 0 from nI_n0 h)]
  rfl
theorem yrk_le (x : RS) : yrk x ≤ 40 * 81 := by
  have t : ∀ (d f : Nat → Int32) (n : Nat), trk d f n ≤ 81 * n := by
    intro d f n
    induction n with
    | zero => exact Nat.le_refl _
    | succ n ih =>
      have k5 : irk d f n ≤ 81 := by
        unfold irk
        have := prk_le f (16 * n) 16
        split <;> omega
      show trk d f n + irk d f n ≤ _
      omega
  have := t (x.2.1 11) (x.2.1 12) 40
  show trk (x.2.1 11) (x.2.1 12) 40 ≤ _
  omega
theorem first_CA {c c1 : CS} {xr : RS} {h g : Nat → Int32} {om pm : Nat} {r : Int32} (ho : om ≤ 40) (hd : ∀ i, i < 40 → c.1 1 (2 * i) 1 = -1) (hg : ∀ i, i < 16 → g i = if i < pm then 1 else 0) (ed : c.1 0 8 1 = nI 0) (eg : c.2.1 0 9 = g) (hA : ArF c om 0 0 8 r c1) : r = (if om = 0 then 0 else 1) ∧ (¬ om = 0 → CA c1 (sS (r_sees (sS (r_forget xr) 13 0) 0 (p_begin pm h, 0)) 16 1)) := by
  have m1 : (-1 : Int32) < 0 := by decide
  rcases hA with ⟨rfl, rfl, h1⟩ | ⟨rfl, kn, hkn, ek, h1⟩
  · rcases h1 with h1 | ⟨kn, hkn, ek, h2, -⟩
    · have z0 : (0 : Int32).toInt = 0 := by decide
      have : om = 0 := by
        by_cases z : om = 0
        · exact z
        · have : r_isM om 0 = true := by rw [isM_iff, z0]; omega
          rw [this] at h1; cases h1
      exact ⟨by rw [if_pos this], fun w => absurd this w⟩
    · rw [hd kn (by omega)] at h2
      exact absurd m1 h2
  · have hk0 : 0 = kn := nI_inj (by omega) (by omega) ek
    subst hk0
    refine ⟨by rw [if_neg (by omega)], fun _ => ?_⟩
    rcases h1 with ⟨-, rfl⟩ | ⟨d, hd8, e1, -⟩
    · exact new_CA (d := 0) (CA_f hd forget_11) (by omega) (by omega) ed ⟨rfl, fun j hj => by have hj : j < 8 + 0 := hj; show c.2.1 0 9 j = p_begin pm h j; rw [eg, hg j (by omega), begin_at (by omega)]⟩ ok_begin
    · rw [hd 0 (by decide)] at e1
      have := nI_n0 (n := d) (by omega)
      rw [← e1] at this
      exact absurd m1 this
set_option maxHeartbeats 4000000 in
set_option maxRecDepth 100000 in
theorem k_F2_handsOn (Γ : mG) (l : Launch) (L : mI → Nat) (x : CS) (cm kn om hn e1 : Nat) (hf hto hat pm : Nat → Nat) (xr yr : RS) (tt : Bool) (k : Int32) (hI : CInv x) (hm : cm < cN x) (hkn : kn < om) (ek : k = nI kn) (hPT : PT x xr cm om hn hf hto hat pm) (hCA : CA x xr) (hch : x.1 0 3 4 = xr.1 16) {cb : Bool} (hcb : xr.1 16 = bI cb) (hcm0 : ∀ j, j < 8 → xr.2.1 17 j = xr.2.1 12 (16 * kn + j)) (he1 : xr.2.1 11 kn = nI e1) (he8 : e1 ≤ 8) (hGo : Go cm om hn hf hto hat pm kn e1 xr tt yr) : mMet Γ l yX2_handsOn cX2_handsOn 5 (some .boolean) { frames := 5, cells := 0, slots := 0, locals := 116 } [.ref (L (nm 0 3)), .ref (L (nm 0 1)), .ref (L (nm (cm + 2) 0)), .int k] L (cM Γ L x) (mQi Γ (fun r L1 M1 => L1 = L ∧ ∃ c1 : CS, M1 = cM Γ L c1 ∧ CInv c1 ∧ kf 0 3 5 x c1 ∧ r = bI tt ∧ (tt = true → CA c1 yr ∧ c1.1 0 3 4 = yr.1 16 ∧ ∃ cb, yr.1 16 = bI cb))) := by
  refine m_start (by decide) (Nat.le_of_ble_eq_true rfl) ?_
  intro p e s m args below meth c A ls X hr hlk hnm hw hS hl
  have hx := X.1.1
  have hb := X.1.2.1
  have hl : lv_has ls 5 [(0, .ref (L (nm 0 3))), (1, .ref (L (nm 0 1))), (2, .ref (L (nm (cm + 2) 0))), (3, .int k)] := hl
  have hk : kf 0 3 5 x x := kf.rf
  have ho40 := hPT.2.1
  have hn6 := hPT.2.2.2.1
  have hkn40 : kn < 40 := by omega
  have hcm8 : cm < 8 := by have := hI.1; omega
  have edz : x.1 1 (2 * kn) 1 = nI e1 := (hCA kn hkn40).1.trans he1
  obtain ⟨okx, hrw⟩ := (hCA kn hkn40).2 e1 he8 he1
  obtain ⟨h9, hg9⟩ := hGo
  have okr : okP (p_takes xr kn h9, e1) := okP_agr (q := (p_takes xr kn h9, e1)) (z := (rowR xr kn, e1)) ⟨rfl, fun j hj => takes_at (by have hj : j < 8 + e1 := hj; omega)⟩ okx
  have KL : ∀ (n t : Nat) (j : Int32) (y : CS) (x2 : RS) (cb2 : Bool) (H : Heap) (locs : List Loc) (ls : Array Slot), t + n = hn → j = nI t → CInv y → kf 0 3 5 x y → CA y x2 → y.1 0 3 4 = x2.1 16 → x2.1 16 = bI cb2 → jk xr x2 → x2.2.1 17 = xr.2.1 17 → (y.1 0 5 1 = nI 1 ∧ (∀ i, i < 8 → y.2.1 0 6 i = xr.2.1 17 i) ∧ y.2.1 0 6 8 = 1) → HS om hf hto hat kn n t x2 tt yr → mW Γ.1 vwCl A L (cM Γ L y) H → va_S A s.heap H locs → lv_has ls 5 [(4, .int j), (0, .ref (L (nm 0 3))), (1, .ref (L (nm 0 1))), (2, .ref (L (nm (cm + 2) 0))), (3, .int k)] → W p l e { frames := 5, cells := 0, slots := 0, locals := 116 } s m args below meth c H locs 0 0 (MQ below (mQi Γ (fun r L1 M1 => L1 = L ∧ ∃ c1 : CS, M1 = cM Γ L c1 ∧ CInv c1 ∧ kf 0 3 5 x c1 ∧ r = bI tt ∧ (tt = true → CA c1 yr ∧ c1.1 0 3 4 = yr.1 16 ∧ ∃ cb, yr.1 16 = bI cb)) A) args s 0 0 A) (F0 m 111 ls []) := by
    intro n
    induction n with
    | zero =>
      intro t j y x2 cb2 H locs ls f0 f1 hI hk hC2 h42 hcb2 hjk h17 hct hHS hw hS hl
      have hPy := hPT.keep hk.1.o hjk
      have hom := hPy.1
      have hHS : tt = true ∧ yr = x2 := hHS
      refine lv_iload hx hb dX2_handsOn_111 (lv_at hl 0 rfl) ?_
      refine lv_aload_n hx hb dX2_handsOn_113 rfl (lv_at hl 3 rfl) ?_
      refine s_get (a := cm + 2) (b := 0) (ci := 0) X hw (c_cell (hk.lt hm) 0 _ _ _) rfl gX0 9 (by decide) fl_X2_98 rfl rfl dX2_handsOn_114 ?_
      refine lv_icmp_ge (tgt := 157) hx hb dX2_handsOn_117 (by decide) (fun c_1 => ?_) (fun c_1 => ?_)
      · skip
        have c_1n : t ≥ hn := ngeT (a := t) (b := hn) f1 hPy.2.2.1 (by omega) (by omega) c_1
        have c_1m : ¬ t < hn := by omega
        refine lv_iconst (v := 1) hx hb dX2_handsOn_157 (by decide) ?_
        exact m_zret (b := true) X hr hlk hw hS (Nat.le_of_ble_eq_true rfl) (Nat.le_of_ble_eq_true rfl) rfl ⟨rfl, _, rfl, hI, hk, by rw [hHS.1], fun _ => by rw [hHS.2]; exact ⟨hC2, h42, _, hcb2⟩⟩ dX2_handsOn_158
      · skip
        have c_1n : ¬ t ≥ hn := ngeF (a := t) (b := hn) f1 hPy.2.2.1 (by omega) (by omega) c_1
        have c_1m : t < hn := by omega
        exact (by omega : False).elim
    | succ n ih =>
      intro t j y x2 cb2 H locs ls f0 f1 hI hk hC2 h42 hcb2 hjk h17 hct hHS hw hS hl
      have hPy := hPT.keep hk.1.o hjk
      have hom := hPy.1
      refine lv_iload hx hb dX2_handsOn_111 (lv_at hl 0 rfl) ?_
      refine lv_aload_n hx hb dX2_handsOn_113 rfl (lv_at hl 3 rfl) ?_
      refine s_get (a := cm + 2) (b := 0) (ci := 0) X hw (c_cell (hk.lt hm) 0 _ _ _) rfl gX0 9 (by decide) fl_X2_98 rfl rfl dX2_handsOn_114 ?_
      refine lv_icmp_ge (tgt := 157) hx hb dX2_handsOn_117 (by decide) (fun c_2 => ?_) (fun c_2 => ?_)
      · skip
        have c_2n : t ≥ hn := ngeT (a := t) (b := hn) f1 hPy.2.2.1 (by omega) (by omega) c_2
        have c_2m : ¬ t < hn := by omega
        exact (by omega : False).elim
      · skip
        have c_2n : ¬ t ≥ hn := ngeF (a := t) (b := hn) f1 hPy.2.2.1 (by omega) (by omega) c_2
        have c_2m : t < hn := by omega
        refine lv_aload_n hx hb dX2_handsOn_120 rfl (lv_at hl 3 rfl) ?_
        refine lv_iload hx hb dX2_handsOn_121 (lv_at hl 0 rfl) ?_
        refine lv_iload_n hx hb dX2_handsOn_123 rfl (lv_at hl 4 rfl) ?_
        refine m_calli (m_runV (i := nm (cm + 2) 0) (ci := 0) (As := [.int j, .int k]) (rest := []) X (k_F0_covers Γ l L y cm t hn (hf t) (hto t) kn j k (hk.lt hm) f1 (by omega) hn6 hPy.2.2.1 (hPy.2.2.2.2.2.2 t (by omega)).1 (hPy.2.2.2.2.2.2 t (by omega)).2.1 (by have := (hPy.2.2.2.2.2.2 t (by omega)).2.2.2; omega) (hPy.2.2.2.2.2.2 t (by omega)).2.2.2.2.1 ek (by omega)) v_X0_covers ml_X2_101 hw hS (c_cell (hk.lt hm) 0 _ _ _) rfl rfl rfl hl.1 ⟨Nat.le_of_ble_eq_true rfl, Nat.le_of_ble_eq_true rfl⟩ (Nat.le_of_ble_eq_true rfl) ⟨Nat.le_of_ble_eq_true rfl, Nat.le_of_ble_eq_true rfl⟩ dX2_handsOn_124) hS (fun r_3 L1 M1 H locs hp_3 hw hS => ?_)
        obtain ⟨rfl, e1_, e2_⟩ := hp_3
        rw [e1_, e2_] at hw; clear e1_ e2_
        refine lv_if_eq (tgt := 151) hx hb dX2_handsOn_127 (by decide) (fun c_4 => ?_) (fun c_4 => ?_)
        · skip
          have c_4 := bI_f c_4
          have hcv := of_decide_eq_false c_4
          have hlt9 := (hPy.2.2.2.2.2.2 t (by omega)).2.2.2.1
          have hHS := hHS
          unfold HS at hHS
          rw [if_neg (show ¬ (hf t ≤ kn ∧ kn ≤ hto t - 1) by omega)] at hHS
          refine lv_iinc (v := j + 1) (lv' := [(4, .int (j + 1)), (0, .ref (L (nm 0 3))), (1, .ref (L (nm 0 1))), (2, .ref (L (nm (cm + 2) 0))), (3, .int k)]) hx hb dX2_handsOn_151 hl (k := 0) rfl rfl (by decide) rfl (fun ls hl => ?_)
          refine lv_goto (tgt := 111) hx hb dX2_handsOn_154 (by decide) ?_
          exact ih (t + 1) _ _ _ _ _ _ ls (by omega) (nadd (a := t) (b := 1) f1 rfl) hI hk hC2 h42 hcb2 hjk h17 hct hHS hw hS (lv_sub hl [0, 1, 2, 3, 4] rfl)
        · skip
          have c_4 := bI_t c_4
          have hcv := of_decide_eq_true c_4
          have hHS := hHS
          unfold HS at hHS
          rw [if_pos (show hf t ≤ kn ∧ kn ≤ hto t - 1 by omega)] at hHS
          obtain ⟨h2, h28, h2e, hHS⟩ := hHS
          refine lv_aload_n hx hb dX2_handsOn_130 rfl (lv_at hl 1 rfl) ?_
          refine lv_aload_n hx hb dX2_handsOn_131 rfl (lv_at hl 3 rfl) ?_
          refine lv_aload_n hx hb dX2_handsOn_132 rfl (lv_at hl 3 rfl) ?_
          refine s_get (a := cm + 2) (b := 0) (ci := 0) X hw (c_cell (hk.lt hm) 0 _ _ _) rfl gX0 7 (by decide) fl_X2_105 rfl rfl dX2_handsOn_133 ?_
          refine lv_iload hx hb dX2_handsOn_136 (lv_at hl 0 rfl) ?_
          refine s_iald (n := 6) (k := t) X hw (c_cell (hk.lt hm) 5 _ _ _) f1 (by omega) (by decide) dX2_handsOn_138 ?_
          refine lv_aload_n hx hb dX2_handsOn_139 rfl (lv_at hl 1 rfl) ?_
          refine s_get (a := 0) (b := 3) (ci := 2) X hw rfl rfl gX2 1 (by decide) fl_X2_20 rfl rfl dX2_handsOn_140 ?_
          refine m_calli (m_runV (i := nm 0 3) (ci := 2) (As := [.ref (L (nm (cm + 2) 0)), .int (y.2.1 (cm + 2) 5 t), .ref (L (nm 0 5))]) (rest := []) X (k_F2_arrives Γ l L y cm om 0 5 (y.2.1 (cm + 2) 5 t) hI (hk.lt hm) pO5 rfl hom ho40) v_X2_arrives ml_X2_115 hw hS rfl rfl rfl rfl hl.1 ⟨Nat.le_of_ble_eq_true rfl, Nat.le_of_ble_eq_true rfl⟩ (Nat.le_of_ble_eq_true rfl) ⟨Nat.le_of_ble_eq_true rfl, Nat.le_of_ble_eq_true rfl⟩ dX2_handsOn_143) hS (fun r_5 L1 M1 H locs hp_5 hw hS => ?_)
          obtain ⟨e1_, c_5, e2_, hI_5, hk_5, hA_5⟩ := hp_5
          rw [e1_, e2_] at hw; clear e1_ e2_
          have hka := (hPy.2.2.2.2.2.2 t (by omega)).2.2.1
          rw [hka] at hA_5
          obtain ⟨er_5, hkA_5, hcA_5⟩ := comes_CA (x := x2) (z := (h2, 1)) hC2 h42 hcb2 (by omega) hct.1 ⟨rfl, fun j9 h9 => ct_ag hct h17 h28 h2e j9 h9⟩ (ok_ct okx hcm0 (fun j9 h9 => (h28 j9 h9).trans (congrFun h17 j9)) h2e) ho40 hA_5
          have hk := hk.tr hk_5
          have hI := hI_5
          subst er_5
          cases et_5 : (r_comes x2 om (nI (hat t)) (h2, 1)).1 with
          | false =>
            refine lv_if_ne (tgt := 151) hx hb dX2_handsOn_146 (by decide) (fun h => absurd rfl h) (fun _ => ?_)
            refine lv_iconst (v := 0) hx hb dX2_handsOn_149 (by decide) ?_
            have ht9 : tt = false := by rw [if_neg (by rw [et_5]; decide)] at hHS; exact hHS
            exact m_zret (b := false) X hr hlk hw hS (Nat.le_of_ble_eq_true rfl) (Nat.le_of_ble_eq_true rfl) rfl ⟨rfl, _, rfl, hI, hk, by rw [ht9], fun z9 => absurd (ht9.symm.trans z9) (by decide)⟩ dX2_handsOn_150
          | true =>
            refine lv_if_ne (tgt := 151) hx hb dX2_handsOn_146 (by decide) (fun _ => ?_) (fun h => absurd h (by decide))
            refine lv_iinc (v := j + 1) (lv' := [(4, .int (j + 1)), (0, .ref (L (nm 0 3))), (1, .ref (L (nm 0 1))), (2, .ref (L (nm (cm + 2) 0))), (3, .int k)]) hx hb dX2_handsOn_151 hl (k := 0) rfl rfl (by decide) rfl (fun ls hl => ?_)
            refine lv_goto (tgt := 111) hx hb dX2_handsOn_154 (by decide) ?_
            exact ih (t + 1) _ _ _ _ _ _ ls (by omega) (nadd (a := t) (b := 1) f1 rfl) hI hk (hcA_5 et_5).1 (hcA_5 et_5).2.1 (hcA_5 et_5).2.2.choose_spec (hjk.tr (comes_jk ho40 (Nat.le_of_ble_eq_true rfl) hcb2)) ((comes_17 ho40 (Nat.le_of_ble_eq_true rfl) hcb2).trans h17) (ct_keep hct hkA_5) (by rw [if_pos et_5] at hHS; exact hHS) hw hS (lv_sub hl [0, 1, 2, 3, 4] rfl)
  have K95 : ∀ (y : CS) (x2 : RS) (cb2 : Bool) (H : Heap) (locs : List Loc) (ls : Array Slot), CInv y → kf 0 3 5 x y → CA y x2 → y.1 0 3 4 = x2.1 16 → x2.1 16 = bI cb2 → jk xr x2 → x2.2.1 17 = xr.2.1 17 → RK xr x2 kn e1 → HS om hf hto hat kn hn 0 x2 tt yr → mW Γ.1 vwCl A L (cM Γ L y) H → va_S A s.heap H locs → lv_has ls 5 [(0, .ref (L (nm 0 3))), (1, .ref (L (nm 0 1))), (2, .ref (L (nm (cm + 2) 0))), (3, .int k)] → W p l e { frames := 5, cells := 0, slots := 0, locals := 116 } s m args below meth c H locs 0 0 (MQ below (mQi Γ (fun r L1 M1 => L1 = L ∧ ∃ c1 : CS, M1 = cM Γ L c1 ∧ CInv c1 ∧ kf 0 3 5 x c1 ∧ r = bI tt ∧ (tt = true → CA c1 yr ∧ c1.1 0 3 4 = yr.1 16 ∧ ∃ cb, yr.1 16 = bI cb)) A) args s 0 0 A) (F0 m 95 ls []) := by
    intro y x2 cb2 H locs ls hI hk hC2 h42 hcb2 hjk h17 hrk hHS hw hS hl
    refine lv_aload_n hx hb dX2_handsOn_95 rfl (lv_at hl 0 rfl) ?_
    refine s_get (a := 0) (b := 3) (ci := 2) X hw rfl rfl gX2 1 (by decide) fl_X2_20 rfl rfl dX2_handsOn_96 ?_
    refine lv_aload_n hx hb dX2_handsOn_99 rfl (lv_at hl 0 rfl) ?_
    refine s_get (a := 0) (b := 3) (ci := 2) X hw rfl rfl gX2 0 (by decide) fl_X2_13 rfl rfl dX2_handsOn_100 ?_
    refine lv_iload_n hx hb dX2_handsOn_103 rfl (lv_at hl 3 rfl) ?_
    refine s_aaldS (a := 0) (b := 4) (n := 40) (k := kn) (t := 4) (q := L (nm 1 (2 * kn))) X hw rfl rfl ek (by omega) (by decide) (if_pos (show kn < 40 by omega)) dX2_handsOn_104 ?_
    refine m_callv (m_runV (i := nm 0 5) (ci := 4) (As := [.ref (L (nm 1 (2 * kn)))]) (rest := []) X (k_F6_becomeCaught Γ l L y 0 5 1 (2 * kn) pO5 (pO1 (show kn < 40 by omega))) v_X6_becomeCaught ml_X2_95 hw hS (p_obj Γ L (c := y) pO5) rfl rfl rfl hl.1 ⟨Nat.le_of_ble_eq_true rfl, Nat.le_of_ble_eq_true rfl⟩ (Nat.le_of_ble_eq_true rfl) ⟨Nat.le_of_ble_eq_true rfl, Nat.le_of_ble_eq_true rfl⟩ dX2_handsOn_105) hS (fun L1 M1 H locs hp_8 hw hS => ?_)
    obtain ⟨e1_, g_8, e2_, hg_8, hg8_8⟩ := hp_8
    rw [e1_, e2_] at hw; clear e1_ e2_
    refine lv_iconst (v := 0) hx hb dX2_handsOn_108 (by decide) ?_
    refine lv_istore (lv' := [(4, .int 0), (0, .ref (L (nm 0 3))), (1, .ref (L (nm 0 1))), (2, .ref (L (nm (cm + 2) 0))), (3, .int k)]) hx hb dX2_handsOn_109 hl (by decide) rfl (fun ls hl => ?_)
    exact KL hn 0 _ _ x2 cb2 _ _ ls (by omega) rfl (CInv.putP (a := 0) (b := 5) (q := (g_8, 1)) hI pO5 (by show 1 ≤ 8; omega)) (hk.putP (a := 0) (b := 5) (q := (g_8, 1)) (by omega)) (CA_0 hC2) (by rw [sP_rdS (by omega)]; exact h42) hcb2 hjk h17 (ct_new (fun i9 h9 => (hg_8 i9 h9).trans ((((hC2 kn hkn40).2 e1 he8 (hrk.1.trans he1)).2 i9 (by omega)).trans ((hrk.2 i9 (by omega)).trans (hcm0 i9 h9).symm))) hg8_8) hHS hw hS (lv_sub hl [0, 1, 2, 3, 4] rfl)
  have K61 : ∀ (y : CS) (x2 : RS) (cb2 : Bool) (z9 : PL) (d9 : Nat) (H : Heap) (locs : List Loc) (ls : Array Slot), CInv y → kf 0 3 5 x y → CA y x2 → y.1 0 3 4 = x2.1 16 → x2.1 16 = bI cb2 → jk xr x2 → x2.2.1 17 = xr.2.1 17 → r_code xr cm om pm kn (p_takes xr kn h9, e1) = some z9 → okP z9 → d9 ≤ 8 → y.1 0 8 1 = nI d9 → agr (y.2.1 0 9, d9) z9 → y.1 0 7 1 = (if r_leads (xr.2.1 3 (40 * cm + kn)) = true then (xr.2.2 4 (40 * cm + kn)).toInt32 else -1) → cm1 (!r_last (xr.2.1 3 (40 * cm + kn))) xr om (nI kn + 1) z9 = (true, x2) → (if (cm1 (r_leads (xr.2.1 3 (40 * cm + kn))) x2 om (x2.2.2 4 (40 * cm + kn)).toInt32 z9).1 = true then HS om hf hto hat kn hn 0 (cm1 (r_leads (xr.2.1 3 (40 * cm + kn))) x2 om (x2.2.2 4 (40 * cm + kn)).toInt32 z9).2 tt yr else tt = false) → mW Γ.1 vwCl A L (cM Γ L y) H → va_S A s.heap H locs → lv_has ls 5 [(0, .ref (L (nm 0 3))), (1, .ref (L (nm 0 1))), (2, .ref (L (nm (cm + 2) 0))), (3, .int k)] → W p l e { frames := 5, cells := 0, slots := 0, locals := 116 } s m args below meth c H locs 0 0 (MQ below (mQi Γ (fun r L1 M1 => L1 = L ∧ ∃ c1 : CS, M1 = cM Γ L c1 ∧ CInv c1 ∧ kf 0 3 5 x c1 ∧ r = bI tt ∧ (tt = true → CA c1 yr ∧ c1.1 0 3 4 = yr.1 16 ∧ ∃ cb, yr.1 16 = bI cb)) A) args s 0 0 A) (F0 m 61 ls []) := by
    intro y x2 cb2 z9 d9 H locs ls hI hk hC2 h42 hcb2 hjk h17 hz9 ok9 hd9 ed9 ha9 hu9 h1c hg2 hw hS hl
    have hPy := hPT.keep hk.1.o hjk
    have hom := hPy.1
    refine lv_aload_n hx hb dX2_handsOn_61 rfl (lv_at hl 0 rfl) ?_
    refine s_get (a := 0) (b := 3) (ci := 2) X hw rfl rfl gX2 2 (by decide) fl_X2_27 rfl rfl dX2_handsOn_62 ?_
    refine s_get (a := 0) (b := 7) (ci := 6) X hw rfl rfl gX8 1 (by decide) fl_X2_92 rfl rfl dX2_handsOn_65 ?_
    refine lv_if_lt (tgt := 95) hx hb dX2_handsOn_68 (by decide) (fun c_9 => ?_) (fun c_9 => ?_)
    · skip
      have hld : r_leads (xr.2.1 3 (40 * cm + kn)) = false := ld_neg (by omega) hz9 hu9 c_9
      have h2c := cm2_n (x := x2) (om := om) (b := (x2.2.2 4 (40 * cm + kn)).toInt32) (z := z9) hld
      rw [h2c, if_pos rfl] at hg2
      exact K95 _ _ _ _ _ ls hI hk hC2 h42 hcb2 hjk h17 (go_row hkn40 ho40 he8 he1 okx hz9 h1c h2c hjk.2.2).2 hg2 hw hS (lv_sub hl [0, 1, 2, 3] rfl)
    · skip
      have hld : r_leads (xr.2.1 3 (40 * cm + kn)) = true := ld_pos hu9 (Int32.not_lt.mp c_9)
      have hu9 : y.1 0 7 1 = (x2.2.2 4 (40 * cm + kn)).toInt32 := by rw [hu9, if_pos hld, hjk.2.2]
      refine lv_aload_n hx hb dX2_handsOn_71 rfl (lv_at hl 0 rfl) ?_
      refine lv_aload_n hx hb dX2_handsOn_72 rfl (lv_at hl 2 rfl) ?_
      refine lv_aload_n hx hb dX2_handsOn_73 rfl (lv_at hl 0 rfl) ?_
      refine s_get (a := 0) (b := 3) (ci := 2) X hw rfl rfl gX2 2 (by decide) fl_X2_27 rfl rfl dX2_handsOn_74 ?_
      refine s_get (a := 0) (b := 7) (ci := 6) X hw rfl rfl gX8 1 (by decide) fl_X2_92 rfl rfl dX2_handsOn_77 ?_
      refine lv_aload_n hx hb dX2_handsOn_80 rfl (lv_at hl 0 rfl) ?_
      refine s_get (a := 0) (b := 3) (ci := 2) X hw rfl rfl gX2 2 (by decide) fl_X2_27 rfl rfl dX2_handsOn_81 ?_
      refine s_get (a := 0) (b := 7) (ci := 6) X hw rfl rfl gX8 0 (by decide) fl_X2_54 rfl rfl dX2_handsOn_84 ?_
      refine m_calli (m_runV (i := nm 0 3) (ci := 2) (As := [.ref (L (nm (cm + 2) 0)), .int (y.1 0 7 1), .ref (L (nm 0 8))]) (rest := []) X (k_F2_arrives Γ l L y cm om 0 8 (y.1 0 7 1) hI (hk.lt hm) pO8 rfl hom ho40) v_X2_arrives ml_X2_115 hw hS rfl rfl rfl rfl hl.1 ⟨Nat.le_of_ble_eq_true rfl, Nat.le_of_ble_eq_true rfl⟩ (Nat.le_of_ble_eq_true rfl) ⟨Nat.le_of_ble_eq_true rfl, Nat.le_of_ble_eq_true rfl⟩ dX2_handsOn_87) hS (fun r_10 L1 M1 H locs hp_10 hw hS => ?_)
      obtain ⟨e1_, c_10, e2_, hI_10, hk_10, hA_10⟩ := hp_10
      rw [e1_, e2_] at hw; clear e1_ e2_
      rw [hu9] at hA_10
      obtain ⟨er_10, hkA_10, hcA_10⟩ := comes_CA (x := x2) (z := z9) hC2 h42 hcb2 hd9 ed9 ha9 ok9 ho40 hA_10
      have hk := hk.tr hk_10
      have hI := hI_10
      subst er_10
      cases et_10 : (r_comes x2 om ((x2.2.2 4 (40 * cm + kn)).toInt32) z9).1 with
      | false =>
        refine lv_if_ne (tgt := 95) hx hb dX2_handsOn_90 (by decide) (fun h => absurd rfl h) (fun _ => ?_)
        refine lv_iconst (v := 0) hx hb dX2_handsOn_93 (by decide) ?_
        have ht9 : tt = false := by unfold cm1 at hg2; rw [if_pos hld, if_neg (by rw [et_10]; decide)] at hg2; exact hg2
        exact m_zret (b := false) X hr hlk hw hS (Nat.le_of_ble_eq_true rfl) (Nat.le_of_ble_eq_true rfl) rfl ⟨rfl, _, rfl, hI, hk, by rw [ht9], fun z9 => absurd (ht9.symm.trans z9) (by decide)⟩ dX2_handsOn_94
      | true =>
        refine lv_if_ne (tgt := 95) hx hb dX2_handsOn_90 (by decide) (fun _ => ?_) (fun h => absurd h (by decide))
        have h2c := cm2_t (x1 := (r_comes x2 om (x2.2.2 4 (40 * cm + kn)).toInt32 z9).2) hld et_10 rfl; rw [h2c, if_pos rfl] at hg2; exact K95 _ _ _ _ _ ls hI hk (hcA_10 et_10).1 (hcA_10 et_10).2.1 (hcA_10 et_10).2.2.choose_spec (hjk.tr (comes_jk ho40 (p_op_le hz9 he8) hcb2)) ((comes_17 ho40 (p_op_le hz9 he8) hcb2).trans h17) (go_row hkn40 ho40 he8 he1 okx hz9 h1c h2c hjk.2.2).2 hg2 hw hS (lv_sub hl [0, 1, 2, 3] rfl)
  refine lv_aload_n hx hb dX2_handsOn_0 rfl (lv_at hl 0 rfl) ?_
  refine s_get (a := 0) (b := 3) (ci := 2) X hw rfl rfl gX2 2 (by decide) fl_X2_27 rfl rfl dX2_handsOn_1 ?_
  refine s_get (a := 0) (b := 7) (ci := 6) X hw rfl rfl gX8 0 (by decide) fl_X2_54 rfl rfl dX2_handsOn_4 ?_
  refine lv_aload_n hx hb dX2_handsOn_7 rfl (lv_at hl 0 rfl) ?_
  refine s_get (a := 0) (b := 3) (ci := 2) X hw rfl rfl gX2 0 (by decide) fl_X2_13 rfl rfl dX2_handsOn_8 ?_
  refine lv_iload_n hx hb dX2_handsOn_11 rfl (lv_at hl 3 rfl) ?_
  refine s_aaldS (a := 0) (b := 4) (n := 40) (k := kn) (t := 4) (q := L (nm 1 (2 * kn))) X hw rfl rfl ek (by omega) (by decide) (if_pos (show kn < 40 by omega)) dX2_handsOn_12 ?_
  refine m_callv (m_runV (i := nm 0 8) (ci := 4) (As := [.ref (L (nm 1 (2 * kn)))]) (rest := []) X (k_X6_copyFrom Γ l L x 0 8 1 (2 * kn) pO8 (pO1 (show kn < 40 by omega))) v_X6_copyFrom ml_X2_72 hw hS (p_obj Γ L (c := x) pO8) rfl rfl rfl hl.1 ⟨Nat.le_of_ble_eq_true rfl, Nat.le_of_ble_eq_true rfl⟩ (Nat.le_of_ble_eq_true rfl) ⟨Nat.le_of_ble_eq_true rfl, Nat.le_of_ble_eq_true rfl⟩ dX2_handsOn_13) hS (fun L1 M1 H locs hp_13 hw hS => ?_)
  obtain ⟨e1_, e2_⟩ := hp_13
  rw [e1_, e2_] at hw; clear e1_ e2_
  obtain ⟨g_13, eg_13⟩ : ∃ gz : Nat → Int32, gz = cpy16 (x.2.1 1 (2 * kn + 1)) (x.2.1 0 (8 + 1)) := ⟨_, rfl⟩
  rw [← eg_13] at hw
  rw [edz] at hw
  have hw : mW Γ.1 vwCl A L (cM Γ L (sP x 0 8 (g_13, e1))) H := hw
  have hgr : ∀ j, j < 8 + e1 → g_13 j = xr.2.1 12 (16 * kn + j) := fun j hj => by rw [eg_13, cpy16_at (by omega)]; exact hrw j hj
  have okg : okP (g_13, e1) := okP_agr (q := (g_13, e1)) (z := (rowR xr kn, e1)) ⟨rfl, fun j hj => hgr j hj⟩ okx
  refine lv_aload_n hx hb dX2_handsOn_16 rfl (lv_at hl 0 rfl) ?_
  refine s_get (a := 0) (b := 3) (ci := 2) X hw rfl rfl gX2 2 (by decide) fl_X2_27 rfl rfl dX2_handsOn_17 ?_
  refine lv_aload_n hx hb dX2_handsOn_20 rfl (lv_at hl 1 rfl) ?_
  refine lv_aload_n hx hb dX2_handsOn_21 rfl (lv_at hl 2 rfl) ?_
  refine lv_iload_n hx hb dX2_handsOn_22 rfl (lv_at hl 3 rfl) ?_
  refine m_calli (m_runV (i := nm 0 7) (ci := 6) (As := [.ref (L (nm 0 1)), .ref (L (nm (cm + 2) 0)), .int k]) (rest := []) X (k_F8_does Γ l L x g_13 e1 cm om kn pm k (by omega) okg hI (hk.lt hm) hPT.1 ho40 hPT.2.2.2.2.1 hkn ek) v_X8_does ml_X2_76 hw hS rfl rfl rfl rfl hl.1 ⟨Nat.le_of_ble_eq_true rfl, Nat.le_of_ble_eq_true rfl⟩ (Nat.le_of_ble_eq_true rfl) ⟨Nat.le_of_ble_eq_true rfl, Nat.le_of_ble_eq_true rfl⟩ dX2_handsOn_23) hS (fun r_14 L1 M1 H locs hp_14 hw hS => ?_)
  obtain ⟨e1_, v_14, w_14, ⟨h_14, d_14⟩, hd_14, e2_, hm_14, hu_14⟩ := hp_14
  have hd_14 : d_14 ≤ 8 := hd_14
  rw [e1_, e2_] at hw; clear e1_ e2_
  have hI := (hI.free (b := 7) (k := 1) (v := v_14) (by decide)).free (b := 7) (k := 2) (v := w_14) (by decide)
  have hk := (hk.putS (a := 0) (b := 7) (k := 1) (v := v_14) (by omega)).putS (a := 0) (b := 7) (k := 2) (v := w_14) (by omega)
  have hag := code_ag (h := h9) hPT hcm8 hkn ek hgr (show e1 ≤ 8 by omega)
  have hm_14 : mFo (p_op (x.2.1 (cm + 2) 1) (x.2.2.1 (cm + 2) 2) cm om pm k (x.2.1 (cm + 2) 1 kn) (x.2.2.1 (cm + 2) 2 kn) (g_13, e1)) r_14 (h_14, d_14) := hm_14
  cases ho_14 : p_op (x.2.1 (cm + 2) 1) (x.2.2.1 (cm + 2) 2) cm om pm k (x.2.1 (cm + 2) 1 kn) (x.2.2.1 (cm + 2) 2 kn) (g_13, e1) with
  | none =>
    rw [ho_14] at hm_14 hag
    have hm_14 : r_14 = 0 := hm_14
    subst hm_14
    have hn9 := hag.n
    have ht9 : tt = false := by rcases hg9 with ⟨-, z9⟩ | ⟨z9, e9, -⟩; exact z9; (rw [hn9] at e9; cases e9)
    refine lv_if_ne (tgt := 31) hx hb dX2_handsOn_26 (by decide) (fun h => absurd rfl h) (fun _ => ?_)
    refine lv_iconst (v := 0) hx hb dX2_handsOn_29 (by decide) ?_
    exact m_zret (b := false) X hr hlk hw hS (Nat.le_of_ble_eq_true rfl) (Nat.le_of_ble_eq_true rfl) rfl ⟨rfl, _, rfl, (CInv.putP (a := 0) (b := 8) (q := (h_14, d_14)) hI pO8 (by show d_14 ≤ 8; omega)), (hk.putP (a := 0) (b := 8) (q := (h_14, d_14)) (by omega)), by rw [ht9], fun z9 => absurd (ht9.symm.trans z9) (by decide)⟩ dX2_handsOn_30
  | some z_14 =>
    rw [ho_14] at hm_14 hag
    have hm_14 : r_14 = 1 ∧ (h_14, d_14) = z_14 := hm_14
    obtain ⟨e3, e4⟩ := hm_14
    subst e3; subst e4
    obtain ⟨hw9, hv9⟩ := hu_14 rfl
    obtain ⟨z9, hz9, ha9⟩ := hag.s
    have hg2 : Go2 cm om hn hf hto hat kn xr z9 tt yr := by rcases hg9 with ⟨e9, -⟩ | ⟨y9, e9, g9⟩; (rw [hz9] at e9; cases e9); (rw [hz9] at e9; cases e9; exact g9)
    have ok9 : okP z9 := ok_op (ii := kn) okr rfl (by omega) ho40 _ hz9
    rw [(hPT.2.2.2.2.2.1 kn hkn).1] at hw9 hv9; rw [(hPT.2.2.2.2.2.1 kn hkn).2] at hv9
    refine lv_if_ne (tgt := 31) hx hb dX2_handsOn_26 (by decide) (fun _ => ?_) (fun h => absurd h (by decide))
    refine lv_aload_n hx hb dX2_handsOn_31 rfl (lv_at hl 0 rfl) ?_
    refine s_get (a := 0) (b := 3) (ci := 2) X hw rfl rfl gX2 2 (by decide) fl_X2_27 rfl rfl dX2_handsOn_32 ?_
    refine s_get (a := 0) (b := 7) (ci := 6) X hw rfl rfl gX8 2 (by decide) fl_X2_88 rfl rfl dX2_handsOn_35 ?_
    refine lv_if_eq (tgt := 61) hx hb dX2_handsOn_38 (by decide) (fun c_17 => ?_) (fun c_17 => ?_)
    · skip
      have fl_ : bI (!r_last (xr.2.1 3 (40 * cm + kn))) = (sP (tS (tS x 0 7 1 v_14) 0 7 2 w_14) 0 8 (h_14, d_14)).1 0 7 2 := (((sP_rdS (by omega)).trans tS_self).trans hw9).symm
      have hla : r_last (xr.2.1 3 (40 * cm + kn)) = true := by have := bI_f (fl_.trans c_17); simpa using this
      have h1c := cm1_n (x := xr) (om := om) (b := nI kn + 1) (z := z9) hla; unfold Go2 at hg2; rw [h1c, if_pos rfl] at hg2; exact K61 _ _ _ z9 d_14 _ _ ls (CInv.putP (a := 0) (b := 8) (q := (h_14, d_14)) hI pO8 (by show d_14 ≤ 8; omega)) (hk.putP (a := 0) (b := 8) (q := (h_14, d_14)) (by omega)) (CA_0 (CA_7 (CA_7 hCA))) (by rw [sP_rdS (by omega), tS_rd (by omega), tS_rd (by omega)]; exact hch) hcb jk.rf rfl hz9 ok9 hd_14 sP_dep (ag_sP ha9) (by rw [sP_rdS (by omega), tS_rd (by omega), tS_self]; exact hv9) h1c hg2 hw hS (lv_sub hl [0, 1, 2, 3] rfl)
    · skip
      have fl_ : bI (!r_last (xr.2.1 3 (40 * cm + kn))) = (sP (tS (tS x 0 7 1 v_14) 0 7 2 w_14) 0 8 (h_14, d_14)).1 0 7 2 := (((sP_rdS (by omega)).trans tS_self).trans hw9).symm
      have hla : r_last (xr.2.1 3 (40 * cm + kn)) = false := by have := bI_t (fun z8 => c_17 (fl_.symm.trans z8)); simpa using this
      refine lv_aload_n hx hb dX2_handsOn_41 rfl (lv_at hl 0 rfl) ?_
      refine lv_aload_n hx hb dX2_handsOn_42 rfl (lv_at hl 2 rfl) ?_
      refine lv_iload_n hx hb dX2_handsOn_43 rfl (lv_at hl 3 rfl) ?_
      refine lv_iconst (v := 1) hx hb dX2_handsOn_44 (by decide) ?_
      refine lv_iadd hx hb dX2_handsOn_45 ?_
      refine lv_aload_n hx hb dX2_handsOn_46 rfl (lv_at hl 0 rfl) ?_
      refine s_get (a := 0) (b := 3) (ci := 2) X hw rfl rfl gX2 2 (by decide) fl_X2_27 rfl rfl dX2_handsOn_47 ?_
      refine s_get (a := 0) (b := 7) (ci := 6) X hw rfl rfl gX8 0 (by decide) fl_X2_54 rfl rfl dX2_handsOn_50 ?_
      refine m_calli (m_runV (i := nm 0 3) (ci := 2) (As := [.ref (L (nm (cm + 2) 0)), .int (k + 1), .ref (L (nm 0 8))]) (rest := []) X (k_F2_arrives Γ l L (sP (tS (tS x 0 7 1 v_14) 0 7 2 w_14) 0 8 (h_14, d_14)) cm om 0 8 (k + 1) (CInv.putP (a := 0) (b := 8) (q := (h_14, d_14)) hI pO8 (by show d_14 ≤ 8; omega)) (hk.lt hm) pO8 rfl (by rw [sP_rdS (by omega), tS_rd (by omega), tS_rd (by omega)]; exact hPT.1) ho40) v_X2_arrives ml_X2_115 hw hS rfl rfl rfl rfl hl.1 ⟨Nat.le_of_ble_eq_true rfl, Nat.le_of_ble_eq_true rfl⟩ (Nat.le_of_ble_eq_true rfl) ⟨Nat.le_of_ble_eq_true rfl, Nat.le_of_ble_eq_true rfl⟩ dX2_handsOn_53) hS (fun r_18 L1 M1 H locs hp_18 hw hS => ?_)
      obtain ⟨e1_, c_18, e2_, hI_18, hk_18, hA_18⟩ := hp_18
      rw [e1_, e2_] at hw; clear e1_ e2_
      have hb9 : k + 1 = nI kn + 1 := by rw [ek]
      rw [hb9] at hA_18
      obtain ⟨er_18, hkA_18, hcA_18⟩ := comes_CA (x := xr) (z := z9) (CA_0 (CA_7 (CA_7 hCA))) (by rw [sP_rdS (by omega), tS_rd (by omega), tS_rd (by omega)]; exact hch) hcb hd_14 sP_dep (ag_sP ha9) ok9 ho40 hA_18
      have hk := (hk.putP (a := 0) (b := 8) (q := (h_14, d_14)) (by omega)).tr hk_18
      have hI := hI_18
      subst er_18
      cases et_18 : (r_comes xr om (nI kn + 1) z9).1 with
      | false =>
        refine lv_if_ne (tgt := 61) hx hb dX2_handsOn_56 (by decide) (fun h => absurd rfl h) (fun _ => ?_)
        refine lv_iconst (v := 0) hx hb dX2_handsOn_59 (by decide) ?_
        have ht9 : tt = false := by unfold Go2 cm1 at hg2; rw [if_neg (by rw [hla]; show ¬ (r_comes xr om (nI kn + 1) z9).1 = true; rw [et_18]; decide)] at hg2; exact hg2
        exact m_zret (b := false) X hr hlk hw hS (Nat.le_of_ble_eq_true rfl) (Nat.le_of_ble_eq_true rfl) rfl ⟨rfl, _, rfl, hI, hk, by rw [ht9], fun z9 => absurd (ht9.symm.trans z9) (by decide)⟩ dX2_handsOn_60
      | true =>
        refine lv_if_ne (tgt := 61) hx hb dX2_handsOn_56 (by decide) (fun _ => ?_) (fun h => absurd h (by decide))
        have h1c := cm1_t (x := xr) (om := om) (b := nI kn + 1) (z := z9) (x1 := (r_comes xr om (nI kn + 1) z9).2) hla et_18 rfl; unfold Go2 at hg2; rw [h1c, if_pos rfl] at hg2; exact K61 _ _ _ z9 d_14 _ _ ls hI hk (hcA_18 et_18).1 (hcA_18 et_18).2.1 (hcA_18 et_18).2.2.choose_spec (comes_jk ho40 (p_op_le hz9 he8) hcb) (comes_17 ho40 (p_op_le hz9 he8) hcb) hz9 ok9 hd_14 (by rw [(hkA_18 8 (by decide)).1]; exact sP_dep) (by rw [(hkA_18 9 (by decide)).2]; exact ag_sP ha9) (by rw [(hkA_18 7 (by decide)).1, sP_rdS (by omega), tS_rd (by omega), tS_self]; exact hv9) h1c hg2 hw hS (lv_sub hl [0, 1, 2, 3] rfl)
set_option maxHeartbeats 4000000 in
set_option maxRecDepth 100000 in
theorem k_F2_byJoining (Γ : mG) (l : Launch) (L : mI → Nat) (x : CS) (cm om hn : Nat) (hf hto hat pm : Nat → Nat) (xr : RS) (hh : Nat → Int32)  (hI : CInv x) (hm : cm < cN x) (hPT : PT x xr cm om hn hf hto hat pm) : mMet Γ l yX2_byJoining cX2_byJoining 4 (some .int) { frames := 6, cells := 0, slots := 0, locals := 140 } [.ref (L (nm 0 3)), .ref (L (nm 0 1)), .ref (L (nm (cm + 2) 0))] L (cM Γ L x) (mQi Γ (fun r L1 M1 => L1 = L ∧ ∃ c1 : CS, M1 = cM Γ L c1 ∧ CInv c1 ∧ kp0 x c1 ∧ r = r_verdict (jv (jF cm om hn hf hto hat pm xr hh).1) ∧ c1.1 0 3 5 = nI (jF cm om hn hf hto hat pm xr hh).2)) := by
  refine m_start (by decide) (Nat.le_of_ble_eq_true rfl) ?_
  intro p e s m args below meth c A ls X hr hlk hnm hw hS hl
  have hx := X.1.1
  have hb := X.1.2.1
  have hl : lv_has ls 4 [(0, .ref (L (nm 0 3))), (1, .ref (L (nm 0 1))), (2, .ref (L (nm (cm + 2) 0)))] := hl
  have hk : kp0 x x := kp0.rf
  have ho40 := hPT.2.1
  have hcm8 : cm < 8 := by have := hI.1; omega
  have hI0 := hI
  have KL : ∀ (fu r : Nat) (y : CS) (x2 : RS) (q2 : PL) (cb2 : Bool) (H : Heap) (locs : List Loc) (ls : Array Slot), (jF cm om hn hf hto hat pm xr hh) = ((lpF cm om hn hf hto hat pm fu x2 q2).1, r + (lpF cm om hn hf hto hat pm fu x2 q2).2) → (cb2 = true → yrk x2 < fu) → r + fu ≤ 100000 → (∀ i, i < 40 → r_dp (x2.2.1 11 i)) → CInv y → kp0 x y → CA y x2 → y.1 0 3 4 = x2.1 16 → x2.1 16 = bI cb2 → jk xr x2 → y.1 0 3 5 = nI r → mW Γ.1 vwCl A L (cM Γ L y) H → va_S A s.heap H locs → lv_has ls 4 [(0, .ref (L (nm 0 3))), (1, .ref (L (nm 0 1))), (2, .ref (L (nm (cm + 2) 0)))] → W p l e { frames := 6, cells := 0, slots := 0, locals := 140 } s m args below meth c H locs 0 0 (MQ below (mQi Γ (fun r L1 M1 => L1 = L ∧ ∃ c1 : CS, M1 = cM Γ L c1 ∧ CInv c1 ∧ kp0 x c1 ∧ r = r_verdict (jv (jF cm om hn hf hto hat pm xr hh).1) ∧ c1.1 0 3 5 = nI (jF cm om hn hf hto hat pm xr hh).2) A) args s 0 0 A) (F0 m 47 ls []) := by
    intro fu
    induction fu with
    | zero =>
      intro r y x2 q2 cb2 H locs ls hJ hN hr9 hdp hI hk hC2 h42 hcb2 hjk hrd hw hS hl
      refine lv_aload_n hx hb dX2_byJoining_47 rfl (lv_at hl 0 rfl) ?_
      refine s_get (a := 0) (b := 3) (ci := 2) X hw rfl rfl gX2 4 (by decide) fl_X2_119 rfl rfl dX2_byJoining_48 ?_
      refine lv_if_eq (tgt := 129) hx hb dX2_byJoining_51 (by decide) (fun c_1 => ?_) (fun c_1 => ?_)
      · skip
        refine lv_iconst (v := 0) hx hb dX2_byJoining_129 (by decide) ?_
        exact m_iret X hr hlk hw hS (Nat.le_of_ble_eq_true rfl) (Nat.le_of_ble_eq_true rfl) ⟨rfl, _, rfl, hI, hk, (by rw [hJ, lp_0 (h42.symm.trans (by assumption))]; rfl), (by rw [hJ, lp_0 (h42.symm.trans (by assumption))]; exact hrd)⟩ dX2_byJoining_130
      · skip
        exact absurd (hN (bI_t (fun z9 => absurd (h42.trans (hcb2.trans z9)) (by assumption)))) (Nat.not_lt_zero _)
    | succ fu ih =>
      intro r y x2 q2 cb2 H locs ls hJ hN hr9 hdp hI hk hC2 h42 hcb2 hjk hrd hw hS hl
      refine lv_aload_n hx hb dX2_byJoining_47 rfl (lv_at hl 0 rfl) ?_
      refine s_get (a := 0) (b := 3) (ci := 2) X hw rfl rfl gX2 4 (by decide) fl_X2_119 rfl rfl dX2_byJoining_48 ?_
      refine lv_if_eq (tgt := 129) hx hb dX2_byJoining_51 (by decide) (fun c_2 => ?_) (fun c_2 => ?_)
      · skip
        refine lv_iconst (v := 0) hx hb dX2_byJoining_129 (by decide) ?_
        exact m_iret X hr hlk hw hS (Nat.le_of_ble_eq_true rfl) (Nat.le_of_ble_eq_true rfl) ⟨rfl, _, rfl, hI, hk, (by first | (rw [hJ, lp_0 (h42.symm.trans (by assumption))]; rfl) | (exfalso; omega)), (by first | (rw [hJ, lp_0 (h42.symm.trans (by assumption))]; exact hrd) | (exfalso; omega))⟩ dX2_byJoining_130
      · skip
        refine lv_aload_n hx hb dX2_byJoining_54 rfl (lv_at hl 0 rfl) ?_
        refine s_get (a := 0) (b := 3) (ci := 2) X hw rfl rfl gX2 5 (by decide) fl_X2_112 rfl rfl dX2_byJoining_55 ?_
        refine lv_ldc (v := (100000)) hx hb X.1.2.2.2.1 (X.1.2.2.2.2 _ ki_X2_122) dX2_byJoining_58 ?_
        refine lv_icmp_ge (tgt := 129) hx hb dX2_byJoining_60 (by decide) (fun c_3 => ?_) (fun c_3 => ?_)
        · skip
          have c_3n : r ≥ 100000 := ngeT (a := r) (b := 100000) hrd rfl (by omega) (by omega) c_3
          have c_3m : ¬ r < 100000 := by omega
          refine lv_iconst (v := 0) hx hb dX2_byJoining_129 (by decide) ?_
          exact m_iret X hr hlk hw hS (Nat.le_of_ble_eq_true rfl) (Nat.le_of_ble_eq_true rfl) ⟨rfl, _, rfl, hI, hk, (by first | (rw [hJ, lp_0 (h42.symm.trans (by assumption))]; rfl) | (exfalso; omega)), (by first | (rw [hJ, lp_0 (h42.symm.trans (by assumption))]; exact hrd) | (exfalso; omega))⟩ dX2_byJoining_130
        · skip
          have c_3n : ¬ r ≥ 100000 := ngeF (a := r) (b := 100000) hrd rfl (by omega) (by omega) c_3
          have c_3m : r < 100000 := by omega
          refine lv_aload_n hx hb dX2_byJoining_63 rfl (lv_at hl 0 rfl) ?_
          refine lv_iconst (v := 0) hx hb dX2_byJoining_64 (by decide) ?_
          refine s_put (a := 0) (b := 3) (v := 0) (ci := 2) (ty := tyX2 4) X hw hS 4 rfl rfl rfl gX2 tyX2 tyX2_ok nmX2 (by decide) fl_X2_119 rfl rfl (tyX2_ok 4 (by decide)) rfl rfl (show 4 < 6 by decide) dX2_byJoining_65 (fun H locs hw hS => ?_)
          have hI := hI.free (b := 3) (k := 4) (v := 0) (by decide)
          have hk := hk.putS (a := 0) (b := 3) (k := 4) (v := 0) (by omega)
          refine lv_aload_n hx hb dX2_byJoining_68 rfl (lv_at hl 0 rfl) ?_
          refine lv_dup hx hb dX2_byJoining_69 rfl ?_
          refine s_get (a := 0) (b := 3) (ci := 2) X hw rfl rfl gX2 5 (by decide) fl_X2_112 rfl rfl dX2_byJoining_70 ?_
          refine lv_iconst (v := 1) hx hb dX2_byJoining_73 (by decide) ?_
          refine lv_iadd hx hb dX2_byJoining_74 ?_
          refine s_put (a := 0) (b := 3) (v := ((tS y 0 3 4 0).1 0 3 5) + 1) (ci := 2) (ty := tyX2 5) X hw hS 5 rfl rfl rfl gX2 tyX2 tyX2_ok nmX2 (by decide) fl_X2_112 rfl rfl (tyX2_ok 5 (by decide)) rfl rfl (show 5 < 6 by decide) dX2_byJoining_75 (fun H locs hw hS => ?_)
          have hI := hI.free (b := 3) (k := 5) (v := ((tS y 0 3 4 0).1 0 3 5) + 1) (by decide)
          have hk := hk.putS (a := 0) (b := 3) (k := 5) (v := ((tS y 0 3 4 0).1 0 3 5) + 1) (by omega)
          refine lv_iconst (v := 0) hx hb dX2_byJoining_78 (by decide) ?_
          refine lv_istore_n (lv' := [(3, .int 0), (0, .ref (L (nm 0 3))), (1, .ref (L (nm 0 1))), (2, .ref (L (nm (cm + 2) 0)))]) hx hb dX2_byJoining_79 rfl hl (by decide) rfl (fun ls hl => ?_)
          have hfl : ¬ x2.1 16 = 0 := fun z9 => absurd (h42.trans z9) (by assumption)
          have hNt := hN (bI_t (fun z9 => hfl (hcb2.trans z9)))
          have KI : ∀ (u i : Nat) (j : Int32) (y2 : CS) (x4 : RS) (q4 : PL) (cb4 : Bool) (H : Heap) (locs : List Loc) (ls : Array Slot), i + u = om → j = nI i → rdF cm om hn hf hto hat pm om 0 (sS (sS x2 16 0) 13 (x2.1 13 + 1)) q2 = rdF cm om hn hf hto hat pm u i x4 q4 → (cb4 = true → yrk x4 < fu) → yrk x4 ≤ fu → (∀ i, i < 40 → r_dp (x4.2.1 11 i)) → CInv y2 → kp0 x y2 → CA y2 x4 → y2.1 0 3 4 = x4.1 16 → x4.1 16 = bI cb4 → jk xr x4 → y2.1 0 3 5 = nI (r + 1) → mW Γ.1 vwCl A L (cM Γ L y2) H → va_S A s.heap H locs → lv_has ls 4 [(3, .int j), (0, .ref (L (nm 0 3))), (1, .ref (L (nm 0 1))), (2, .ref (L (nm (cm + 2) 0)))] → W p l e { frames := 6, cells := 0, slots := 0, locals := 140 } s m args below meth c H locs 0 0 (MQ below (mQi Γ (fun r L1 M1 => L1 = L ∧ ∃ c1 : CS, M1 = cM Γ L c1 ∧ CInv c1 ∧ kp0 x c1 ∧ r = r_verdict (jv (jF cm om hn hf hto hat pm xr hh).1) ∧ c1.1 0 3 5 = nI (jF cm om hn hf hto hat pm xr hh).2) A) args s 0 0 A) (F0 m 80 ls []) := by
            intro u
            induction u with
            | zero =>
              intro i j y2 x4 q4 cb4 H locs ls g0 g1 hRd hN4 hNe4 hdp4 hI hk hC4 h44 hcb4 hjk4 hrd hw hS hl
              have hPy := hPT.keep hk hjk4
              refine lv_iload_n hx hb dX2_byJoining_80 rfl (lv_at hl 0 rfl) ?_
              refine lv_aload_n hx hb dX2_byJoining_81 rfl (lv_at hl 3 rfl) ?_
              refine s_get (a := cm + 2) (b := 0) (ci := 0) X hw (c_cell (hk.lt hm) 0 _ _ _) rfl gX0 4 (by decide) fl_X2_44 rfl rfl dX2_byJoining_82 ?_
              refine lv_icmp_ge (tgt := 126) hx hb dX2_byJoining_85 (by decide) (fun c_4 => ?_) (fun c_4 => ?_)
              · skip
                have c_4n : i ≥ om := ngeT (a := i) (b := om) g1 hPy.1 (by omega) (by omega) c_4
                have c_4m : ¬ i < om := by omega
                refine lv_goto (tgt := 47) hx hb dX2_byJoining_126 (by decide) ?_
                exact ih (r + 1) y2 x4 q4 cb4 _ _ ls (by rw [hJ, lp_s hfl (hRd.trans rfl)]; exact Prod.ext rfl (by show r + (_ + 1) = r + 1 + _; omega)) hN4 (by omega) hdp4 hI hk hC4 h44 hcb4 hjk4 hrd hw hS (lv_sub hl [1, 2, 3] rfl)
              · skip
                have c_4n : ¬ i ≥ om := ngeF (a := i) (b := om) g1 hPy.1 (by omega) (by omega) c_4
                have c_4m : i < om := by omega
                exact (by omega : False).elim
            | succ u ih2 =>
              intro i j y2 x4 q4 cb4 H locs ls g0 g1 hRd hN4 hNe4 hdp4 hI hk hC4 h44 hcb4 hjk4 hrd hw hS hl
              have hPy := hPT.keep hk hjk4
              refine lv_iload_n hx hb dX2_byJoining_80 rfl (lv_at hl 0 rfl) ?_
              refine lv_aload_n hx hb dX2_byJoining_81 rfl (lv_at hl 3 rfl) ?_
              refine s_get (a := cm + 2) (b := 0) (ci := 0) X hw (c_cell (hk.lt hm) 0 _ _ _) rfl gX0 4 (by decide) fl_X2_44 rfl rfl dX2_byJoining_82 ?_
              refine lv_icmp_ge (tgt := 126) hx hb dX2_byJoining_85 (by decide) (fun c_5 => ?_) (fun c_5 => ?_)
              · skip
                have c_5n : i ≥ om := ngeT (a := i) (b := om) g1 hPy.1 (by omega) (by omega) c_5
                have c_5m : ¬ i < om := by omega
                exact (by omega : False).elim
              · skip
                have c_5n : ¬ i ≥ om := ngeF (a := i) (b := om) g1 hPy.1 (by omega) (by omega) c_5
                have c_5m : i < om := by omega
                refine lv_iload_n hx hb dX2_byJoining_88 rfl (lv_at hl 0 rfl) ?_
                refine lv_bipush (v := 40) hx hb dX2_byJoining_89 (by decide) ?_
                refine lv_icmp_ge (tgt := 126) hx hb dX2_byJoining_91 (by decide) (fun c_6 => ?_) (fun c_6 => ?_)
                · skip
                  have c_6n : i ≥ 40 := ngeT (a := i) (b := 40) g1 rfl (by omega) (by omega) c_6
                  have c_6m : ¬ i < 40 := by omega
                  exact (by omega : False).elim
                · skip
                  have c_6n : ¬ i ≥ 40 := ngeF (a := i) (b := 40) g1 rfl (by omega) (by omega) c_6
                  have c_6m : i < 40 := by omega
                  refine lv_aload_n hx hb dX2_byJoining_94 rfl (lv_at hl 1 rfl) ?_
                  refine s_get (a := 0) (b := 3) (ci := 2) X hw rfl rfl gX2 0 (by decide) fl_X2_13 rfl rfl dX2_byJoining_95 ?_
                  refine lv_iload_n hx hb dX2_byJoining_98 rfl (lv_at hl 0 rfl) ?_
                  refine s_aaldS (a := 0) (b := 4) (n := 40) (k := i) (t := 4) (q := L (nm 1 (2 * i))) X hw rfl rfl g1 (by omega) (by decide) (if_pos (show i < 40 by omega)) dX2_byJoining_99 ?_
                  refine q_getd X hw (pO1 (show i < 40 by omega)) fl_X2_47 rfl dX2_byJoining_100 ?_
                  refine lv_if_lt (tgt := 120) hx hb dX2_byJoining_103 (by decide) (fun c_7 => ?_) (fun c_7 => ?_)
                  · skip
                    have hnd : x4.2.1 11 i < 0 := by rw [← (hC4 i (by omega)).1]; exact c_7
                    refine lv_iinc (v := j + 1) (lv' := [(3, .int (j + 1)), (0, .ref (L (nm 0 3))), (1, .ref (L (nm 0 1))), (2, .ref (L (nm (cm + 2) 0)))]) hx hb dX2_byJoining_120 hl (k := 0) rfl rfl (by decide) rfl (fun ls hl => ?_)
                    refine lv_goto (tgt := 80) hx hb dX2_byJoining_123 (by decide) ?_
                    exact ih2 (i + 1) _ _ _ _ cb4 _ _ ls (by omega) (nadd (a := i) (b := 1) g1 rfl) (hRd.trans (rd_n hnd)) hN4 hNe4 hdp4 hI hk hC4 h44 hcb4 hjk4 hrd hw hS (lv_sub hl [0, 1, 2, 3] rfl)
                  · skip
                    have hnd : ¬ x4.2.1 11 i < 0 := by rw [← (hC4 i (by omega)).1]; exact c_7
                    obtain ⟨e1, he8, he1⟩ := r_dp_nat (hdp4 i (by omega)) hnd
                    refine lv_aload_n hx hb dX2_byJoining_106 rfl (lv_at hl 1 rfl) ?_
                    refine lv_aload_n hx hb dX2_byJoining_107 rfl (lv_at hl 2 rfl) ?_
                    refine lv_aload_n hx hb dX2_byJoining_108 rfl (lv_at hl 3 rfl) ?_
                    refine lv_iload_n hx hb dX2_byJoining_109 rfl (lv_at hl 0 rfl) ?_
                    refine m_calli (m_runV (i := nm 0 3) (ci := 2) (As := [.ref (L (nm 0 1)), .ref (L (nm (cm + 2) 0)), .int j]) (rest := []) X (k_F2_handsOn Γ l L y2 cm i om hn e1 hf hto hat pm (cmF x4 i 8) (goF cm om hn hf hto hat pm i e1 (cmF x4 i 8) q4.1).2.1 (goF cm om hn hf hto hat pm i e1 (cmF x4 i 8) q4.1).1 j hI (hk.lt hm) (by omega) g1 (hPT.keep hk (hjk4.tr cmF_cR.kj)) (CA_cm hC4) h44 hcb4 (fun j9 h9 => (cmF_cR.2.2.2 j9 h9).trans (congrFun (cmF_cR.1 12 (by decide)).symm _)) ((congrFun (cmF_cR.1 11 (by decide)) i).trans he1) he8 goF_Go) v_X2_handsOn ml_X2_123 hw hS rfl rfl rfl rfl hl.1 ⟨Nat.le_of_ble_eq_true rfl, Nat.le_of_ble_eq_true rfl⟩ (Nat.le_of_ble_eq_true rfl) ⟨Nat.le_of_ble_eq_true rfl, Nat.le_of_ble_eq_true rfl⟩ dX2_byJoining_110) hS (fun r_8 L1 M1 H locs hp_8 hw hS => ?_)
                    obtain ⟨e1_, c_8, e2_, hI_8, hk_8, er_8, hcA_8⟩ := hp_8
                    rw [e1_, e2_] at hw; clear e1_ e2_
                    have hrd := hk_8.2.trans hrd
                    have hk := hk.tr hk_8.1.o
                    have hI := hI_8
                    subst er_8
                    cases et_8 : (goF cm om hn hf hto hat pm i e1 (cmF x4 i 8) q4.1).1 with
                    | false =>
                      refine lv_if_ne (tgt := 120) hx hb dX2_byJoining_113 (by decide) (fun h => absurd rfl h) (fun _ => ?_)
                      refine lv_iconst (v := 1) hx hb dX2_byJoining_116 (by decide) ?_
                      refine lv_iload_n hx hb dX2_byJoining_117 rfl (lv_at hl 0 rfl) ?_
                      refine lv_iadd hx hb dX2_byJoining_118 ?_
                      refine lv_topi (fun v_10 ev_10 => ?_)
                      obtain rfl : v_10 = nI (1 + i) := ev_10.trans (nadd (a := 1) (b := i) rfl g1)
                      clear ev_10
                      exact m_iret X hr hlk hw hS (Nat.le_of_ble_eq_true rfl) (Nat.le_of_ble_eq_true rfl) ⟨rfl, _, rfl, hI, hk, (by rw [hJ, lp_i hfl (show _ = some i by rw [hRd]; exact rd_f rfl he1 he8 (y := x4) (q1 := q4) ⟨et_8, fun w9 => by cases w9⟩)]; exact ((verd_i (by omega)).trans (nadd (a := 1) (b := i) rfl rfl)).symm), (by rw [hJ, lp_i hfl (show _ = some i by rw [hRd]; exact rd_f rfl he1 he8 (y := x4) (q1 := q4) ⟨et_8, fun w9 => by cases w9⟩)]; exact hrd)⟩ dX2_byJoining_119
                    | true =>
                      refine lv_if_ne (tgt := 120) hx hb dX2_byJoining_113 (by decide) (fun _ => ?_) (fun h => absurd h (by decide))
                      refine lv_iinc (v := j + 1) (lv' := [(3, .int (j + 1)), (0, .ref (L (nm 0 3))), (1, .ref (L (nm 0 1))), (2, .ref (L (nm (cm + 2) 0)))]) hx hb dX2_byJoining_120 hl (k := 0) rfl rfl (by decide) rfl (fun ls hl => ?_)
                      refine lv_goto (tgt := 80) hx hb dX2_byJoining_123 (by decide) ?_
                      obtain ⟨c9, hj9⟩ := go_jR ho40 he8 (show (cmF x4 i 8).1 16 = bI cb4 from hcb4) et_8; exact ih2 (i + 1) _ _ _ _ c9 _ _ ls (by omega) (nadd (a := i) (b := 1) g1 rfl) (hRd.trans (rd_t rfl he1 he8 ⟨et_8, fun _ => rfl⟩)) (fun z9 => jrk hj9 z9 cmF_cR.rk hN4 hNe4) (Nat.le_trans hj9.2.2.2.2.1 (by rw [cmF_cR.rk]; exact hNe4)) (hj9.2.2.2.2.2.2.1 (cmF_cR.dp hdp4)) hI hk (hcA_8 et_8).1 (hcA_8 et_8).2.1 hj9.2.1 (hjk4.tr (cmF_cR.kj.tr hj9.1)) hrd hw hS (lv_sub hl [0, 1, 2, 3] rfl)
          exact KI om 0 _ _ (sS (sS x2 16 0) 13 (x2.1 13 + 1)) q2 false _ _ ls (by omega) rfl rfl (fun z9 => by cases z9) (by show yrk x2 ≤ fu; omega) hdp hI hk (CA_7 (CA_7 hC2)) (by rw [tS_rd (by omega), tS_self]; exact (jS_16 x2 _).symm) (jS_16 x2 _) (jk_S (jk_S hjk (Or.inr (Or.inr rfl))) (Or.inl rfl)) (tS_self.trans (nadd (a := r) (b := 1) ((tS_rd (by omega)).trans hrd) rfl)) hw hS (lv_sub hl [0, 1, 2, 3] rfl)
  refine lv_aload_n hx hb dX2_byJoining_0 rfl (lv_at hl 0 rfl) ?_
  refine lv_aload_n hx hb dX2_byJoining_1 rfl (lv_at hl 2 rfl) ?_
  refine m_callv (m_runV (i := nm 0 3) (ci := 2) (As := [.ref (L (nm (cm + 2) 0))]) (rest := []) X (k_F2_forget Γ l L x cm hI (hk.lt hm)) v_X2_forget ml_X2_50 hw hS rfl rfl rfl rfl hl.1 ⟨Nat.le_of_ble_eq_true rfl, Nat.le_of_ble_eq_true rfl⟩ (Nat.le_of_ble_eq_true rfl) ⟨Nat.le_of_ble_eq_true rfl, Nat.le_of_ble_eq_true rfl⟩ dX2_byJoining_2) hS (fun L1 M1 H locs hp_12 hw hS => ?_)
  obtain ⟨e1_, c_12, e2_, hI_12, hk_12, hfg⟩ := hp_12
  rw [e1_, e2_] at hw; clear e1_ e2_
  have hk := hk.tr hk_12.o
  have hI := hI_12
  refine lv_aload_n hx hb dX2_byJoining_5 rfl (lv_at hl 0 rfl) ?_
  refine lv_iconst (v := 0) hx hb dX2_byJoining_6 (by decide) ?_
  refine s_put (a := 0) (b := 3) (v := 0) (ci := 2) (ty := tyX2 5) X hw hS 5 rfl rfl rfl gX2 tyX2 tyX2_ok nmX2 (by decide) fl_X2_112 rfl rfl (tyX2_ok 5 (by decide)) rfl rfl (show 5 < 6 by decide) dX2_byJoining_7 (fun H locs hw hS => ?_)
  have hI := hI.free (b := 3) (k := 5) (v := 0) (by decide)
  have hk := hk.putS (a := 0) (b := 3) (k := 5) (v := 0) (by omega)
  refine lv_aload_n hx hb dX2_byJoining_10 rfl (lv_at hl 0 rfl) ?_
  refine s_get (a := 0) (b := 3) (ci := 2) X hw rfl rfl gX2 2 (by decide) fl_X2_27 rfl rfl dX2_byJoining_11 ?_
  refine s_get (a := 0) (b := 7) (ci := 6) X hw rfl rfl gX8 0 (by decide) fl_X2_54 rfl rfl dX2_byJoining_14 ?_
  refine lv_aload_n hx hb dX2_byJoining_17 rfl (lv_at hl 2 rfl) ?_
  refine s_get (a := cm + 2) (b := 0) (ci := 0) X hw (c_cell (hk.lt hm) 0 _ _ _) rfl gX0 1 (by decide) fl_X2_57 rfl rfl dX2_byJoining_18 ?_
  refine m_callv (m_runV (i := nm 0 8) (ci := 4) (As := [.int ((tS c_12 0 3 5 0).1 (cm + 2) 0 1)]) (rest := []) X (k_F6_begin Γ l L (tS c_12 0 3 5 0) 0 8 (pm cm) ((tS c_12 0 3 5 0).1 (cm + 2) 0 1) pO8 (((hk.2.2 (cm + 2) 0 (by omega)).2.2 1 (by omega)).trans (hPT.2.2.2.2.1 cm hm).1) (hPT.2.2.2.2.1 cm hm).2) v_X6_begin ml_X2_60 hw hS (p_obj Γ L (c := tS c_12 0 3 5 0) pO8) rfl rfl rfl hl.1 ⟨Nat.le_of_ble_eq_true rfl, Nat.le_of_ble_eq_true rfl⟩ (Nat.le_of_ble_eq_true rfl) ⟨Nat.le_of_ble_eq_true rfl, Nat.le_of_ble_eq_true rfl⟩ dX2_byJoining_21) hS (fun L1 M1 H locs hp_13 hw hS => ?_)
  obtain ⟨g_13, e1_, e2_, hg_13⟩ := hp_13
  rw [e1_, e2_] at hw; clear e1_ e2_
  refine lv_aload_n hx hb dX2_byJoining_24 rfl (lv_at hl 0 rfl) ?_
  refine lv_aload_n hx hb dX2_byJoining_25 rfl (lv_at hl 2 rfl) ?_
  refine lv_iconst (v := 0) hx hb dX2_byJoining_26 (by decide) ?_
  refine lv_aload_n hx hb dX2_byJoining_27 rfl (lv_at hl 0 rfl) ?_
  refine s_get (a := 0) (b := 3) (ci := 2) X hw rfl rfl gX2 2 (by decide) fl_X2_27 rfl rfl dX2_byJoining_28 ?_
  refine s_get (a := 0) (b := 7) (ci := 6) X hw rfl rfl gX8 0 (by decide) fl_X2_54 rfl rfl dX2_byJoining_31 ?_
  refine m_calli (m_runV (i := nm 0 3) (ci := 2) (As := [.ref (L (nm (cm + 2) 0)), .int 0, .ref (L (nm 0 8))]) (rest := []) X (k_F2_arrives Γ l L (sP (tS c_12 0 3 5 0) 0 8 (g_13, 0)) cm om 0 8 0 (CInv.putP (a := 0) (b := 8) (q := (g_13, 0)) hI pO8 (by show 0 ≤ 8; omega)) (hk.lt hm) pO8 rfl (by rw [sP_rdS (by omega)]; exact ((hk.2.2 (cm + 2) 0 (by omega)).2.2 4 (by omega)).trans hPT.1) ho40) v_X2_arrives ml_X2_115 hw hS rfl rfl rfl rfl hl.1 ⟨Nat.le_of_ble_eq_true rfl, Nat.le_of_ble_eq_true rfl⟩ (Nat.le_of_ble_eq_true rfl) ⟨Nat.le_of_ble_eq_true rfl, Nat.le_of_ble_eq_true rfl⟩ dX2_byJoining_34) hS (fun r_14 L1 M1 H locs hp_14 hw hS => ?_)
  obtain ⟨e1_, c_14, e2_, hI_14, hk_14, hA_14⟩ := hp_14
  rw [e1_, e2_] at hw; clear e1_ e2_
  have hk9 := (hk.putP (a := 0) (b := 8) (q := (g_13, 0)) (by omega))
  have hk := hk9.tr hk_14.1.o
  have hI := hI_14
  have hdn : ∀ i, i < 40 → (sP (tS c_12 0 3 5 0) 0 8 (g_13, 0)).1 1 (2 * i) 1 = -1 := fun i hi => by rw [sP_rdS (by omega), tS_rd (by omega)]; exact hfg i hi
  have hrd : c_14.1 0 3 5 = nI 0 := hk_14.2.trans (by rw [sP_rdS (by omega), tS_self]; rfl)
  obtain ⟨er_14, hca_14⟩ := first_CA (xr := xr) (h := hh) (pm := pm cm) ho40 hdn hg_13 sP_dep (sP_V (b := 8)) hA_14
  subst er_14
  by_cases hz0 : om = 0
  · rw [if_pos hz0]
    refine lv_if_ne (tgt := 42) hx hb dX2_byJoining_37 (by decide) (fun h => absurd rfl h) (fun _ => ?_)
    refine lv_iconst (v := 1) hx hb dX2_byJoining_40 (by decide) ?_
    exact m_iret X hr hlk hw hS (Nat.le_of_ble_eq_true rfl) (Nat.le_of_ble_eq_true rfl) ⟨rfl, _, rfl, hI, hk, (by unfold jF; rw [if_pos hz0]; rfl), (by unfold jF; rw [if_pos hz0]; exact hrd)⟩ dX2_byJoining_41
  · rw [if_neg hz0]
    refine lv_if_ne (tgt := 42) hx hb dX2_byJoining_37 (by decide) (fun _ => ?_) (fun h => absurd h (by decide))
    refine lv_aload_n hx hb dX2_byJoining_42 rfl (lv_at hl 0 rfl) ?_
    refine lv_iconst (v := 1) hx hb dX2_byJoining_43 (by decide) ?_
    refine s_put (a := 0) (b := 3) (v := 1) (ci := 2) (ty := tyX2 4) X hw hS 4 rfl rfl rfl gX2 tyX2 tyX2_ok nmX2 (by decide) fl_X2_119 rfl rfl (tyX2_ok 4 (by decide)) rfl rfl (show 4 < 6 by decide) dX2_byJoining_44 (fun H locs hw hS => ?_)
    have hI := hI.free (b := 3) (k := 4) (v := 1) (by decide)
    have hk := hk.putS (a := 0) (b := 3) (k := 4) (v := 1) (by omega)
    have hJ9 : (jF cm om hn hf hto hat pm xr hh) = ((lpF cm om hn hf hto hat pm (yrk (jS0 cm pm xr hh) + 1) (jS0 cm pm xr hh) (p_begin (pm cm) hh, 0)).1, 0 + (lpF cm om hn hf hto hat pm (yrk (jS0 cm pm xr hh) + 1) (jS0 cm pm xr hh) (p_begin (pm cm) hh, 0)).2) := by rw [Nat.zero_add]; unfold jF; rw [if_neg hz0]
    exact KL _ 0 _ _ _ true _ _ ls hJ9 (fun _ => Nat.lt_succ_self _) (by have := yrk_le (jS0 cm pm xr hh); omega) (dp_see dp_forget) hI hk (CA_7 (hca_14 hz0)) (tS_self.trans (jS_16t _).symm) (jS_16t _) (jk_S (jk_see (jk_S (jk_forget xr) (Or.inl rfl))) (Or.inr (Or.inr rfl))) ((tS_rd (by omega)).trans hrd) hw hS (lv_sub hl [0, 1, 2] rfl)
