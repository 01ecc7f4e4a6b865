/-! JOINING: the relations that the class follows; the reference's functions keep to them -/
/-- the HANDLERS of an instruction, one behind the other -/
def HS (om : Nat) (hf hto hat : Nat → Nat) (ii : Nat) : Nat → Nat → RS → Bool → RS → Prop
  | 0, _, x, t, y => t = true ∧ y = x
  | n + 1, g, x, t, y => if hf g ≤ ii ∧ ii ≤ hto g - 1 then ∃ h2 : Nat → Int32, (∀ j, j < 8 → h2 j = x.2.1 17 j) ∧ h2 8 = 1 ∧ (if (r_comes x om (nI (hat g)) (h2, 1)).1 = true then HS om hf hto hat ii n (g + 1) (r_comes x om (nI (hat g)) (h2, 1)).2 t y else t = false) else HS om hf hto hat ii n (g + 1) x t y
def Go2 (k om hn : Nat) (hf hto hat : Nat → Nat) (ii : Nat) (x : RS) (z : PL) (t : Bool) (y : RS) : Prop := if (cm1 (!r_last (x.2.1 3 (40 * k + ii))) x om (nI ii + 1) z).1 = true then (if (cm1 (r_leads (x.2.1 3 (40 * k + ii))) (cm1 (!r_last (x.2.1 3 (40 * k + ii))) x om (nI ii + 1) z).2 om ((cm1 (!r_last (x.2.1 3 (40 * k + ii))) x om (nI ii + 1) z).2.2.2 4 (40 * k + ii)).toInt32 z).1 = true then HS om hf hto hat ii hn 0 (cm1 (r_leads (x.2.1 3 (40 * k + ii))) (cm1 (!r_last (x.2.1 3 (40 * k + ii))) x om (nI ii + 1) z).2 om ((cm1 (!r_last (x.2.1 3 (40 * k + ii))) x om (nI ii + 1) z).2.2.2 4 (40 * k + ii)).toInt32 z).2 t y else t = false) else t = false
def Go (k om hn : Nat) (hf hto hat pm : Nat → Nat) (ii e1 : Nat) (x : RS) (t : Bool) (y : RS) : Prop := ∃ h : Nat → Int32, (r_code x k om pm ii (p_takes x ii h, e1) = none ∧ t = false) ∨ ∃ z, r_code x k om pm ii (p_takes x ii h, e1) = some z ∧ Go2 k om hn hf hto hat ii x z t y
theorem hsF_HS {om ii : Nat} {hf hto hat : Nat → Nat} : ∀ (n g : Nat) (x : RS) (q : PL), HS om hf hto hat ii n g x (hsF om hf hto hat ii n g x q).1 (hsF om hf hto hat ii n g x q).2.1
  | 0, g, x, q => ⟨rfl, rfl⟩
  | n + 1, g, x, q => by
    unfold HS
    by_cases c : hf g ≤ ii ∧ ii ≤ hto g - 1
    · rw [if_pos c]
      refine ⟨p_ahead x q.1, fun j hj => ahead_lo hj, ahead_8, ?_⟩
      cases e : (r_comes x om (nI (hat g)) (p_ahead x q.1, 1)).1 with
      | true =>
        rw [if_pos rfl, hs_yes c e rfl]
        exact hsF_HS n (g + 1) _ _
      | false =>
        rw [if_neg (by decide)]
        exact hs_f c e
    · rw [if_neg c, hs_no c]
      exact hsF_HS n (g + 1) x q
theorem goF_Go {k om hn ii e1 : Nat} {hf hto hat pm : Nat → Nat} {x : RS} {h : Nat → Int32} : Go k om hn hf hto hat pm ii e1 x (goF k om hn hf hto hat pm ii e1 x h).1 (goF k om hn hf hto hat pm ii e1 x h).2.1 := by
  refine ⟨h, ?_⟩
  cases e : r_code x k om pm ii (p_takes x ii h, e1) with
  | none => exact Or.inl ⟨rfl, goF_n e⟩
  | some z =>
    refine Or.inr ⟨z, rfl, ?_⟩
    rw [goF_s e]
    unfold Go2 go2F
    by_cases c1 : (cm1 (!r_last (x.2.1 3 (40 * k + ii))) x om (nI ii + 1) z).1 = true
    · rw [if_pos c1, if_pos c1]
      by_cases c2 : (cm1 (r_leads (x.2.1 3 (40 * k + ii))) (cm1 (!r_last (x.2.1 3 (40 * k + ii))) x om (nI ii + 1) z).2 om ((cm1 (!r_last (x.2.1 3 (40 * k + ii))) x om (nI ii + 1) z).2.2.2 4 (40 * k + ii)).toInt32 z).1 = true
      · rw [if_pos c2, if_pos c2]
        exact hsF_HS hn 0 _ z
      · rw [if_neg c2, if_neg c2]
    · rw [if_neg c1, if_neg c1]
/-- what a way through keeps: the rank falls where something changed -/
def jX (x y : RS) (cb : Bool) : Prop := ∃ c1, jR x y cb c1
theorem hs_jR {om ii : Nat} {hf hto hat : Nat → Nat} (ho : om ≤ 40) : ∀ (n g : Nat) (x : RS) (q : PL) (cb : Bool), x.1 16 = bI cb → (hsF om hf hto hat ii n g x q).1 = true → jX x (hsF om hf hto hat ii n g x q).2.1 cb
  | 0, g, x, q, cb, h, _ => ⟨cb, jR.rf h⟩
  | n + 1, g, x, q, cb, h, ht => by
    by_cases c : hf g ≤ ii ∧ ii ≤ hto g - 1
    · cases e : (r_comes x om (nI (hat g)) (p_ahead x q.1, 1)).1 with
      | true =>
        rw [hs_yes c e rfl] at ht ⊢
        obtain ⟨c1, h1, -⟩ := comes_jR (y := x) (om := om) (b := nI (hat g)) (q := (p_ahead x q.1, 1)) (cb := cb) ho (by show 1 ≤ 8; omega) h
        obtain ⟨c2, h2⟩ := hs_jR ho n (g + 1) _ _ c1 h1.2.1 ht
        exact ⟨c2, h1.tr h2⟩
      | false =>
        rw [hs_f c e] at ht
        cases ht
    · rw [hs_no c] at ht ⊢
      exact hs_jR ho n (g + 1) x q cb h ht
theorem cm1_jR {c : Bool} {x : RS} {om : Nat} {b : Int32} {z : PL} {cb : Bool} (ho : om ≤ 40) (hz : z.2 ≤ 8) (h : x.1 16 = bI cb) : jX x (cm1 c x om b z).2 cb := by
  unfold cm1
  by_cases w : c = true
  · rw [if_pos w]
    obtain ⟨c1, h1, -⟩ := comes_jR (y := x) (om := om) (b := b) (q := z) (cb := cb) ho hz h
    exact ⟨c1, h1⟩
  · rw [if_neg w]
    exact ⟨cb, jR.rf h⟩
theorem go_jR {k om hn ii e1 : Nat} {hf hto hat pm : Nat → Nat} {x : RS} {h : Nat → Int32} {cb : Bool} (ho : om ≤ 40) (he : e1 ≤ 8) (hcb : x.1 16 = bI cb) (ht : (goF k om hn hf hto hat pm ii e1 x h).1 = true) : jX x (goF k om hn hf hto hat pm ii e1 x h).2.1 cb := by
  cases e : r_code x k om pm ii (p_takes x ii h, e1) with
  | none => rw [goF_n e] at ht; cases ht
  | some z =>
    have hz : z.2 ≤ 8 := p_op_le e he
    rw [goF_s e] at ht ⊢
    unfold go2F at ht ⊢
    by_cases c1 : (cm1 (!r_last (x.2.1 3 (40 * k + ii))) x om (nI ii + 1) z).1 = true
    · rw [if_pos c1] at ht ⊢
      obtain ⟨b1, h1⟩ := cm1_jR (c := !r_last (x.2.1 3 (40 * k + ii))) (b := nI ii + 1) ho hz hcb
      by_cases c2 : (cm1 (r_leads (x.2.1 3 (40 * k + ii))) (cm1 (!r_last (x.2.1 3 (40 * k + ii))) x om (nI ii + 1) z).2 om ((cm1 (!r_last (x.2.1 3 (40 * k + ii))) x om (nI ii + 1) z).2.2.2 4 (40 * k + ii)).toInt32 z).1 = true
      · rw [if_pos c2] at ht ⊢
        obtain ⟨b2, h2⟩ := cm1_jR (c := r_leads (x.2.1 3 (40 * k + ii))) (b := ((cm1 (!r_last (x.2.1 3 (40 * k + ii))) x om (nI ii + 1) z).2.2.2 4 (40 * k + ii)).toInt32) (x := (cm1 (!r_last (x.2.1 3 (40 * k + ii))) x om (nI ii + 1) z).2) ho hz h1.2.1
        obtain ⟨b3, h3⟩ := hs_jR ho hn 0 _ z b2 h2.2.1 ht
        exact ⟨b3, (h1.tr h2).tr h3⟩
      · rw [if_neg c2] at ht; cases ht
    · rw [if_neg c1] at ht; cases ht
theorem cmF_cR {x : RS} {i : Nat} : cR x (cmF x i 8) i 8 := by
  refine ⟨fun k hk => ?_, rfl, rfl, fun j hj => ?_⟩
  · unfold cmF sAs
    simp [va_up, hk]
  · have e : (cmF x i 8).2.1 17 = cpA (x.2.1 17) 0 (fun j => x.2.1 12 (16 * i + j)) 8 := by
      unfold cmF sAs
      simp [va_up]
    rw [e]
    have := cpA_in (f := x.2.1 17) (g := fun j => x.2.1 12 (16 * i + j)) (o := 0) (p := j) (n := 8) hj
    rw [Nat.zero_add] at this
    exact this
/-- the rank behind a round: rank and flag, as they go on -/
theorem rd_rk {k om hn : Nat} {hf hto hat pm : Nat → Nat} (ho : om ≤ 40) : ∀ (u i : Nat) (x : RS) (q : PL) (cb : Bool) (N : Nat), i + u ≤ om → (∀ j, j < 40 → r_dp (x.2.1 11 j)) → x.1 16 = bI cb → (cb = true → yrk x < N) → yrk x ≤ N → (rdF k om hn hf hto hat pm u i x q).1 = none → ∃ c1, (rdF k om hn hf hto hat pm u i x q).2.1.1 16 = bI c1 ∧ (c1 = true → yrk (rdF k om hn hf hto hat pm u i x q).2.1 < N) ∧ yrk (rdF k om hn hf hto hat pm u i x q).2.1 ≤ N ∧ ∀ j, j < 40 → r_dp ((rdF k om hn hf hto hat pm u i x q).2.1.2.1 11 j)
  | 0, i, x, q, cb, N, _, hd, h, h1, h2, _ => ⟨cb, h, h1, h2, hd⟩
  | u + 1, i, x, q, cb, N, hi, hd, h, h1, h2, hw => by
    by_cases c : x.2.1 11 i < 0
    · rw [rd_n c] at hw ⊢
      exact rd_rk ho u (i + 1) x q cb N (by omega) hd h h1 h2 hw
    · obtain ⟨e1, he8, he1⟩ := r_dp_nat (hd i (by omega)) c
      cases e : (goF k om hn hf hto hat pm i e1 (cmF x i 8) q.1).1 with
      | false =>
        have : (rdF k om hn hf hto hat pm (u + 1) i x q).1 = some i := rd_f rfl he1 he8 (y := x) (q1 := q) ⟨e, fun w => by cases w⟩
        rw [this] at hw
        cases hw
      | true =>
        have hr : rdF k om hn hf hto hat pm (u + 1) i x q = rdF k om hn hf hto hat pm u (i + 1) (goF k om hn hf hto hat pm i e1 (cmF x i 8) q.1).2.1 (goF k om hn hf hto hat pm i e1 (cmF x i 8) q.1).2.2 := rd_t rfl he1 he8 ⟨e, fun _ => rfl⟩
        rw [hr] at hw ⊢
        have hc := cmF_cR (x := x) (i := i)
        have hcb : (cmF x i 8).1 16 = bI cb := h
        obtain ⟨c1, hj⟩ := go_jR ho he8 hcb e
        exact rd_rk ho u (i + 1) _ _ c1 N (by omega) (hj.2.2.2.2.2.2.1 (hc.dp hd)) hj.2.1 (fun z => jrk hj z hc.rk h1 h2) (Nat.le_trans hj.2.2.2.2.1 (by rw [hc.rk]; exact h2)) hw
