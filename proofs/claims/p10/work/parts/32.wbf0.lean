/-! JUDGED BY FRAMES -/
/-- what is known of METHOD k's code in a state -/
def RC (y : RS) (k om hn : Nat) (hf hto hat hwh pm : Nat → Nat) : Prop := y.2.1 2 k = nI om ∧ om ≤ 40 ∧ y.2.1 5 k = nI hn ∧ hn ≤ 6 ∧ p_HH y k hn hf hto hat hwh ∧ (∀ t, t < 8 → y.2.1 1 t = nI (pm t) ∧ pm t ≤ 4) ∧ ∀ i, i < 320 → r_dp (y.2.1 7 i)
theorem RC_sees {y : RS} {k om hn : Nat} {hf hto hat hwh pm : Nat → Nat} {i : Nat} {q : PL} (h : RC y k om hn hf hto hat hwh pm) : RC (r_sees y i q) k om hn hf hto hat hwh pm := h
theorem RC_forget {y : RS} {k om hn : Nat} {hf hto hat hwh pm : Nat → Nat} (h : RC y k om hn hf hto hat hwh pm) : RC (r_forget y) k om hn hf hto hat hwh pm := h
def p_fr (y : RS) (f : Nat) (h : Nat → Int32) : Nat → Int32 := cpA h 0 (fun j => y.2.1 8 (16 * f + j)) 16
def r_code (y : RS) (k om : Nat) (pm : Nat → Nat) (i : Nat) (q : PL) : Option PL := p_op (fun j => y.2.1 3 (40 * k + j)) (fun j => y.2.2 4 (40 * k + j)) k om pm (nI i) (y.2.1 3 (40 * k + i)) (y.2.2 4 (40 * k + i)) q
def r_lead (y : RS) (k i : Nat) (z : PL) : Bool := !r_leads (y.2.1 3 (40 * k + i)) || p_gtf y (40 * k + p_ix (y.2.2 4 (40 * k + i))) z
def r_tail (k om hn : Nat) (hf hto hat pm : Nat → Nat) (rec : RS → PL → Bool → Int32 × RS) (i : Nat) (y : RS) (q2 : PL) : Int32 × RS :=
  if p_hfits (r_sees y i q2) k om hf hto hat i q2.1 hn = true then
    match r_code (r_sees y i q2) k om pm i q2 with
    | none => (nI i, r_sees y i q2)
    | some z => if r_lead (r_sees y i q2) k i z = true then rec (r_sees y i q2) z (!r_last ((r_sees y i q2).2.1 3 (40 * k + i))) else (nI i, r_sees y i q2)
  else (nI i, r_sees y i q2)
def r_wbf (k om hn : Nat) (hf hto hat pm : Nat → Nat) : Nat → Nat → RS → PL → Bool → Int32 × RS
  | 0, _, y, _, c => (if c = true then nI om else -1, y)
  | u + 1, i, y, q, c =>
    if y.2.1 7 (40 * k + i) < 0 then (if c = true then r_tail k om hn hf hto hat pm (r_wbf k om hn hf hto hat pm u (i + 1)) i y q else (nI i, y))
    else if c = true ∧ p_gtf y (40 * k + i) q = false then (nI i, y)
    else r_tail k om hn hf hto hat pm (r_wbf k om hn hf hto hat pm u (i + 1)) i y (p_fr y (40 * k + i) q.1, (y.2.1 7 (40 * k + i)).toNatClampNeg)
theorem p_op_lead {ops : Nat → Int32} {as : Nat → Int64} {k om : Nat} {pm : Nat → Nat} {i o : Int32} {v : Int64} {q z : PL} (hom : om < 1000) (hl : r_leads o = true) (h : p_op ops as k om pm i o v q = some z) : ∃ t : Nat, t < om ∧ v = lN t := by
  unfold r_leads at hl
  obtain ⟨n, h1, h2, -, rfl⟩ := isIn_nat (l := 29) (h := 31) (by decide) (by decide) hl
  have hn : n = 29 ∨ n = 30 ∨ n = 31 := by omega
  have hL : p_isL om v = true := by
    rw [p_op_out (Or.inr (by rw [nI_toInt (by omega)]; omega))] at h
    rcases hn with rfl | rfl | rfl
    · have e : p_more k om pm (nI 29) v q = p_29 om v q := by unfold p_more; rfl
      rw [e] at h; unfold p_29 at h
      by_cases c : p_isL om v = true
      · exact c
      · rw [if_neg c] at h; cases h
    · have e : p_more k om pm (nI 30) v q = p_30 om v 1 q := by unfold p_more; rfl
      rw [e] at h; unfold p_30 at h
      by_cases c : p_isL om v = true
      · exact c
      · rw [if_neg c] at h; cases h
    · have e : p_more k om pm (nI 31) v q = p_30 om v 10 q := by unfold p_more; rfl
      rw [e] at h; unfold p_30 at h
      by_cases c : p_isL om v = true
      · exact c
      · rw [if_neg c] at h; cases h
  exact p_isL_nat hom hL
