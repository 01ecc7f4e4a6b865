/-! JOINING: what an instruction leaves, on both sides -/
def PT (c : CS) (x : RS) (cm om hn : Nat) (hf hto hat pm : Nat → Nat) : Prop := c.1 (cm + 2) 0 4 = nI om ∧ om ≤ 40 ∧ c.1 (cm + 2) 0 9 = nI hn ∧ hn ≤ 6 ∧ (∀ t, t < cN c → c.1 (t + 2) 0 1 = nI (pm t) ∧ pm t ≤ 4) ∧ (∀ j, j < om → c.2.1 (cm + 2) 1 j = x.2.1 3 (40 * cm + j) ∧ c.2.2.1 (cm + 2) 2 j = x.2.2 4 (40 * cm + j)) ∧ ∀ g, g < hn → c.2.1 (cm + 2) 3 g = nI (hf g) ∧ c.2.1 (cm + 2) 4 g = nI (hto g) ∧ c.2.1 (cm + 2) 5 g = nI (hat g) ∧ hf g < hto g ∧ hto g ≤ 40 ∧ hat g < 40
theorem PT.keep {c c1 : CS} {x x1 : RS} {cm om hn : Nat} {hf hto hat pm : Nat → Nat} (h : PT c x cm om hn hf hto hat pm) (k : kp0 c c1) (j : jk x x1) : PT c1 x1 cm om hn hf hto hat pm := by
  obtain ⟨h1, h2, h3, h4, h5, h6, h7⟩ := h
  have a := k.2.2
  refine ⟨by rw [(a (cm + 2) 0 (by omega)).2.2 4 (by omega)]; exact h1, h2, by rw [(a (cm + 2) 0 (by omega)).2.2 9 (by omega)]; exact h3, h4, fun t ht => ?_, fun i hi => ?_, fun g hg => ?_⟩
  · rw [(a (t + 2) 0 (by omega)).2.2 1 (by omega)]
    exact h5 t (by rw [← k.1]; exact ht)
  · rw [(a (cm + 2) 1 (by omega)).1, (a (cm + 2) 2 (by omega)).2.1, j.1 3 (by decide) (by decide) (by decide) (by decide), j.2.2]
    exact h6 i hi
  · rw [(a (cm + 2) 3 (by omega)).1, (a (cm + 2) 4 (by omega)).1, (a (cm + 2) 5 (by omega)).1]
    exact h7 g hg
theorem takes_at {x : RS} {i j : Nat} {h : Nat → Int32} (hj : j < 16) : p_takes x i h j = x.2.1 12 (16 * i + j) := by
  unfold p_takes
  have := cpA_in (f := h) (g := fun k => x.2.1 12 (16 * i + k)) (o := 0) (p := j) (n := 16) hj
  rw [Nat.zero_add] at this
  exact this
/-- the instruction itself, class and reference -/
theorem code_ag {c : CS} {x : RS} {cm om hn kn e1 : Nat} {hf hto hat pm : Nat → Nat} {k : Int32} {g h : Nat → Int32} (hP : PT c x cm om hn hf hto hat pm) (hcm : cm < 8) (hkn : kn < om) (ek : k = nI kn) (hg : ∀ j, j < 8 + e1 → g j = x.2.1 12 (16 * kn + j)) (he : e1 ≤ 8) : agO (p_op (c.2.1 (cm + 2) 1) (c.2.2.1 (cm + 2) 2) cm om pm k (c.2.1 (cm + 2) 1 kn) (c.2.2.1 (cm + 2) 2 kn) (g, e1)) (r_code x cm om pm kn (p_takes x kn h, e1)) := by
  obtain ⟨h1, h2, h3, h4, h5, h6, h7⟩ := hP
  unfold r_code
  rw [ek, (h6 kn hkn).1, (h6 kn hkn).2, p_op_cong (ops := fun j => x.2.1 3 (40 * cm + j)) (as := fun j => x.2.2 4 (40 * cm + j)) (pm := pm) (fun j hj => (h6 j hj).1) (fun j hj => (h6 j hj).2) (fun _ _ => rfl) (by omega) (by omega)]
  refine ag_op ⟨rfl, fun j hj => ?_⟩
  have hj : j < 8 + e1 := hj
  show g j = p_takes x kn h j
  rw [takes_at (by omega)]
  exact hg j hj
theorem agO.n {u : Option PL} (h : agO Option.none u) : u = Option.none := h
theorem agO.s {q : PL} {u : Option PL} (h : agO (Option.some q) u) : ∃ z, u = Option.some z ∧ agr q z := h
/-- what comes elsewhere leaves a row as it was -/
theorem comes_row {x : RS} {om i n : Nat} {b : Int32} {z : PL} (hb : b = nI n) (hn : n < 1000) (hne : ¬ n = i) (hz : z.2 ≤ 8) : (r_comes x om b z).2.2.1 11 i = x.2.1 11 i ∧ ∀ j, j < 16 → (r_comes x om b z).2.2.1 12 (16 * i + j) = x.2.1 12 (16 * i + j) := by
  unfold r_comes
  by_cases c1 : r_isM om b = true
  · rw [if_pos c1, hb, nI_clamp (by omega)]
    by_cases c2 : x.2.1 11 n < 0
    · rw [if_pos c2]
      have r1 : (sS (r_sees x n z) 16 1).2.1 11 = upd (x.2.1 11) n (nI z.2) := sees_11
      have r2 : (sS (r_sees x n z) 16 1).2.1 12 = cpA (x.2.1 12) (16 * n) z.1 16 := sees_12
      show (sS (r_sees x n z) 16 1).2.1 11 i = _ ∧ ∀ j, j < 16 → (sS (r_sees x n z) 16 1).2.1 12 (16 * i + j) = _
      rw [r1, r2]
      exact ⟨upd_oth (fun w => hne w.symm), fun j hj => cpA_out (by omega)⟩
    · rw [if_neg c2]
      by_cases c3 : x.2.1 11 n = nI z.2
      · rw [if_pos c3]
        show (r_jn x n z (8 + z.2)).2.1 11 i = _ ∧ ∀ j, j < 16 → (r_jn x n z (8 + z.2)).2.1 12 (16 * i + j) = _
        rw [jn_o (by decide)]
        exact ⟨rfl, fun j hj => by rw [jn_12, if_neg (by omega)]⟩
      · rw [if_neg c3]; exact ⟨rfl, fun _ _ => rfl⟩
  · rw [if_neg c1]; exact ⟨rfl, fun _ _ => rfl⟩
/-- nor does what comes back to where it came from -/
theorem comes_self {x : RS} {om i e1 : Nat} {z : PL} (he : e1 ≤ 8) (ei : x.2.1 11 i = nI e1) (ok : okP (rowR x i, e1)) (hi : i < 40) (hz2 : z.2 ≤ 8) (hz : z.2 = e1 → ∀ j, j < 8 + e1 → z.1 j = x.2.1 12 (16 * i + j)) (ht : (r_comes x om (nI i) z).1 = true) : (r_comes x om (nI i) z).2.2.1 11 i = x.2.1 11 i ∧ ∀ j, j < 8 + e1 → (r_comes x om (nI i) z).2.2.1 12 (16 * i + j) = x.2.1 12 (16 * i + j) := by
  unfold r_comes at ht ⊢
  by_cases c1 : r_isM om (nI i) = true
  · rw [if_pos c1, nI_clamp (by omega), ei, if_neg (nI_n0 (by omega))] at ht ⊢
    by_cases c3 : nI e1 = nI z.2
    · rw [if_pos c3]
      have e2 : e1 = z.2 := nI_inj (by omega) (by omega) c3
      show (r_jn x i z (8 + z.2)).2.1 11 i = _ ∧ ∀ j, j < 8 + e1 → (r_jn x i z (8 + z.2)).2.1 12 (16 * i + j) = _
      rw [jn_o (by decide)]
      refine ⟨ei, fun j hj => ?_⟩
      rw [jn_12, if_pos (by omega), show 16 * i + j - 16 * i = j by omega, hz e2.symm j hj]
      exact kj_self _ (kind_in (ok.1 j hj))
    · rw [if_neg c3] at ht; cases ht
  · rw [if_neg c1] at ht; cases ht
/-- what leads to itself: with the same depth only a GOTO -/
theorem lead_self {ops : Nat → Int32} {as : Nat → Int64} {k om : Nat} {pm : Nat → Nat} {i o : Int32} {v : Int64} {q z : PL} (hl : r_leads o = true) (h : p_op ops as k om pm i o v q = some z) : (o = 29 ∧ z = q) ∨ (r_last o = false ∧ z.2 + 1 = q.2) := by
  have y29 : (29 : Int64).toInt = 29 := by decide
  have y31 : (31 : Int64).toInt = 31 := by decide
  have hl2 := hl
  unfold r_leads at hl2
  rw [in_iff, y29, y31] at hl2
  have pp : ∀ {kk : Int32}, p_pop q kk = some z → z.2 + 1 = q.2 := by
    intro kk e
    unfold p_pop at e
    by_cases c : q.2 = 0
    · rw [if_pos c] at e; cases e
    · rw [if_neg c] at e
      by_cases c2 : r_goes (q.1 (7 + q.2)) kk = true
      · rw [if_pos c2] at e; cases e; show q.2 - 1 + 1 = q.2; omega
      · rw [if_neg c2] at e; cases e
  rcases (show o.toInt = 29 ∨ o.toInt = 30 ∨ o.toInt = 31 by omega) with e | e | e
  · have e2 : o = 29 := Int32.toInt_inj.mp (e.trans (show ((29 : Nat) : Int) = (29 : Int32).toInt by decide))
    subst e2
    refine Or.inl ⟨rfl, ?_⟩
    have h : p_29 om v q = some z := h
    unfold p_29 at h
    by_cases c : p_isL om v = true
    · rw [if_pos c] at h; cases h; rfl
    · rw [if_neg c] at h; cases h
  · have e2 : o = 30 := Int32.toInt_inj.mp (e.trans (show ((30 : Nat) : Int) = (30 : Int32).toInt by decide))
    subst e2
    refine Or.inr ⟨rfl, ?_⟩
    have h : p_30 om v 1 q = some z := h
    unfold p_30 at h
    by_cases c : p_isL om v = true
    · rw [if_pos c] at h; exact pp h
    · rw [if_neg c] at h; cases h
  · have e2 : o = 31 := Int32.toInt_inj.mp (e.trans (show ((31 : Nat) : Int) = (31 : Int32).toInt by decide))
    subst e2
    refine Or.inr ⟨rfl, ?_⟩
    have h : p_30 om v 10 q = some z := h
    unfold p_30 at h
    by_cases c : p_isL om v = true
    · rw [if_pos c] at h; exact pp h
    · rw [if_neg c] at h; cases h
/-- the row of an instruction, behind what it leaves to others -/
def RK (x y : RS) (i e1 : Nat) : Prop := y.2.1 11 i = x.2.1 11 i ∧ ∀ j, j < 8 + e1 → y.2.1 12 (16 * i + j) = x.2.1 12 (16 * i + j)
theorem go_row {x x1 x2 : RS} {k om i e1 : Nat} {pm : Nat → Nat} {h : Nat → Int32} {z : PL} (hi : i < 40) (ho : om ≤ 40) (he : e1 ≤ 8) (ei : x.2.1 11 i = nI e1) (ok : okP (rowR x i, e1)) (hz : r_code x k om pm i (p_takes x i h, e1) = some z) (h1 : cm1 (!r_last (x.2.1 3 (40 * k + i))) x om (nI i + 1) z = (true, x1)) (h2 : cm1 (r_leads (x.2.1 3 (40 * k + i))) x1 om (x1.2.2 4 (40 * k + i)).toInt32 z = (true, x2)) (e4 : x1.2.2 = x.2.2) : RK x x1 i e1 ∧ RK x x2 i e1 := by
  have hz8 : z.2 ≤ 8 := p_op_le hz he
  have a1 : RK x x1 i e1 := by
    unfold cm1 at h1
    by_cases c : (!r_last (x.2.1 3 (40 * k + i))) = true
    · rw [if_pos c] at h1
      have := comes_row (x := x) (om := om) (i := i) (n := i + 1) (b := nI i + 1) (z := z) (nadd (a := i) (b := 1) rfl rfl) (by omega) (by omega) hz8
      rw [h1] at this
      exact ⟨this.1, fun j hj => this.2 j (by omega)⟩
    · rw [if_neg c] at h1
      cases h1
      exact ⟨rfl, fun _ _ => rfl⟩
  refine ⟨a1, ?_⟩
  by_cases c : r_leads (x.2.1 3 (40 * k + i)) = true
  · unfold cm1 at h2
    rw [if_pos c] at h2
    obtain ⟨tt, htt, hvt⟩ := p_op_lead (by omega) c hz
    rw [e4, hvt, lN_i] at h2
    by_cases w : tt = i
    · subst w
      have ls := lead_self c hz
      have hs := comes_self (x := x1) (om := om) (i := tt) (e1 := e1) (z := z) he (a1.1.trans ei) (okP_agr (q := (rowR x1 tt, e1)) (z := (rowR x tt, e1)) ⟨rfl, fun j hj => a1.2 j hj⟩ ok) hi hz8 (fun w j hj => ?_) (by rw [h2])
      · rw [h2] at hs
        exact ⟨hs.1.trans a1.1, fun j hj => (hs.2 j hj).trans (a1.2 j hj)⟩
      · rcases ls with ⟨l1, l2⟩ | ⟨l1, l2⟩
        · rw [l2, a1.2 j hj]
          exact takes_at (by omega)
        · have l2 : z.2 + 1 = e1 := l2
          omega
    · have := comes_row (x := x1) (om := om) (i := i) (n := tt) (b := nI tt) (z := z) rfl (by omega) w hz8
      rw [h2] at this
      exact ⟨this.1.trans a1.1, fun j hj => (this.2 j (by omega)).trans (a1.2 j hj)⟩
  · unfold cm1 at h2
    rw [if_neg c] at h2
    cases h2
    exact a1
