/-! PLACES ALIKE below 8 + depth; KINDS in them; LONG and BEHIND in pairs -/
def agr (q z : PL) : Prop := q.2 = z.2 ∧ ∀ j, j < 8 + q.2 → q.1 j = z.1 j
def agO (o u : Option PL) : Prop := match o with
  | none => u = none
  | some q => ∃ z, u = some z ∧ agr q z
theorem agr.rf (q : PL) : agr q q := ⟨rfl, fun _ _ => rfl⟩
theorem agr.sm {q z : PL} (h : agr q z) : agr z q := ⟨h.1.symm, fun j hj => (h.2 j (by rw [h.1]; exact hj)).symm⟩
theorem agr.tr {q z w : PL} (h : agr q z) (k : agr z w) : agr q w := ⟨h.1.trans k.1, fun j hj => (h.2 j hj).trans (k.2 j (by rw [← h.1]; exact hj))⟩
theorem agO.some {q z : PL} (h : agr q z) : agO (some q) (some z) := ⟨z, rfl, h⟩
theorem agO.bind {o u : Option PL} {f g : PL → Option PL} (h : agO o u) (k : ∀ q z, agr q z → agO (f q) (g z)) : agO (o.bind f) (u.bind g) := by
  cases o with
  | none => rw [show u = none from h]; exact rfl
  | some q => obtain ⟨z, rfl, h⟩ := h; exact k q z h
theorem agO.ite {c : Prop} [Decidable c] {a b a' b' : Option PL} (h1 : c → agO a a') (h2 : ¬ c → agO b b') : agO (if c then a else b) (if c then a' else b') := by
  by_cases z : c
  · rw [if_pos z, if_pos z]; exact h1 z
  · rw [if_neg z, if_neg z]; exact h2 z
theorem ag_push {q z : PL} {k : Int32} (h : agr q z) : agO (p_push q k) (p_push z k) := by
  obtain ⟨e, h⟩ := h
  unfold p_push
  rw [← e]
  refine agO.ite (fun _ => rfl) (fun _ => agO.some ⟨rfl, fun j hj => ?_⟩)
  have hj : j < 8 + (q.2 + 1) := hj
  show upd q.1 (8 + q.2) k j = upd z.1 (8 + q.2) k j
  by_cases w : j = 8 + q.2
  · rw [w, upd_same, upd_same]
  · rw [upd_oth w, upd_oth w]; exact h j (by omega)
theorem ag_pop {q z : PL} {k : Int32} (h : agr q z) : agO (p_pop q k) (p_pop z k) := by
  obtain ⟨e, h⟩ := h
  unfold p_pop
  rw [← e]
  refine agO.ite (fun _ => rfl) (fun c => ?_)
  rw [← h (7 + q.2) (by omega)]
  exact agO.ite (fun _ => agO.some ⟨rfl, fun j hj => h j (by have hj : j < 8 + (q.2 - 1) := hj; omega)⟩) (fun _ => rfl)
theorem ag_pushL {q z : PL} (h : agr q z) : agO (p_pushL q) (p_pushL z) := (ag_push h).bind (fun _ _ h => ag_push h)
theorem ag_popL {q z : PL} (h : agr q z) : agO (p_popL q) (p_popL z) := by
  obtain ⟨e, h⟩ := h
  unfold p_popL
  rw [← e]
  by_cases c : 2 ≤ q.2
  · rw [← h (7 + q.2) (by omega), ← h (6 + q.2) (by omega)]
    exact agO.ite (fun _ => agO.some ⟨rfl, fun j hj => h j (by have hj : j < 8 + (q.2 - 2) := hj; omega)⟩) (fun _ => rfl)
  · rw [if_neg (fun w => c w.1), if_neg (fun w => c w.1)]; exact rfl
theorem ag_one {q z : PL} {n : Nat} (h : agr q z) (hn : n ≤ 1) : p_one q n = p_one z n := by
  obtain ⟨e, h⟩ := h
  unfold p_one
  rw [← e]
  by_cases c : n < q.2
  · rw [h (7 + q.2 - n) (by omega)]
  · rw [decide_eq_false c, Bool.false_and, Bool.false_and]
theorem ag_pops {q z : PL} (h : agr q z) : ∀ n, agO (p_pops n q) (p_pops n z)
  | 0 => agO.some h
  | n + 1 => (ag_pops h n).bind (fun _ _ h => ag_pop h)
theorem ag_drop {q z : PL} (h : agr q z) : agr (p_drop q) (p_drop z) := by
  refine ⟨by show q.2 - 1 = z.2 - 1; rw [h.1], fun j hj => h.2 j ?_⟩
  have hj : j < 8 + (q.2 - 1) := hj
  omega
theorem local_at {h : Nat → Int32} {l : Nat} {k : Int32} (j : Nat) : p_local h l k j = if j = l then k else if (j + 1 = l ∧ h l = 3 ∧ h j = 2) ∨ (j = l + 1 ∧ l < 7 ∧ h l = 2 ∧ h j = 3) then 0 else h j := by
  unfold p_local p_local2
  by_cases w : j = l
  · rw [w, upd_same, if_pos rfl]
  · rw [upd_oth w, if_neg w]
    have e1 : p_local1 h l l = h l := by
      unfold p_local1
      by_cases c : h l = 3 ∧ 0 < l ∧ h (l - 1) = 2
      · rw [if_pos c, upd_oth (by omega)]
      · rw [if_neg c]
    have e2 : p_local1 h l (l + 1) = h (l + 1) := by
      unfold p_local1
      by_cases c : h l = 3 ∧ 0 < l ∧ h (l - 1) = 2
      · rw [if_pos c, upd_oth (by omega)]
      · rw [if_neg c]
    rw [e1, e2]
    have e3 : p_local1 h l j = if j + 1 = l ∧ h l = 3 ∧ h j = 2 then 0 else h j := by
      unfold p_local1
      by_cases c : h l = 3 ∧ 0 < l ∧ h (l - 1) = 2
      · rw [if_pos c]
        by_cases w2 : j + 1 = l
        · have : j = l - 1 := by omega
          rw [this, upd_same, if_pos ⟨by omega, c.1, c.2.2⟩]
        · rw [upd_oth (by omega), if_neg (fun z => w2 z.1)]
      · rw [if_neg c, if_neg]
        rintro ⟨z1, z2, z3⟩
        have e9 : l - 1 = j := by omega
        exact c ⟨z2, by omega, by rw [e9]; exact z3⟩
    by_cases c : h l = 2 ∧ l < 7 ∧ h (l + 1) = 3
    · rw [if_pos c]
      by_cases w3 : j = l + 1
      · rw [w3, upd_same, if_pos (Or.inr ⟨rfl, c.2.1, c.1, c.2.2⟩)]
      · rw [upd_oth w3, e3]
        by_cases c4 : j + 1 = l ∧ h l = 3 ∧ h j = 2
        · rw [if_pos c4, if_pos (Or.inl c4)]
        · rw [if_neg c4, if_neg (fun z => z.elim c4 (fun z => w3 z.1))]
    · rw [if_neg c, e3]
      by_cases c4 : j + 1 = l ∧ h l = 3 ∧ h j = 2
      · rw [if_pos c4, if_pos (Or.inl c4)]
      · rw [if_neg c4, if_neg (fun z => z.elim c4 (fun z => c ⟨z.2.2.1, z.2.1, by rw [← z.1]; exact z.2.2.2⟩))]
theorem ag_local {h g : Nat → Int32} {l d : Nat} {k : Int32} (hl : l < 8) (e : ∀ j, j < 8 + d → h j = g j) : ∀ j, j < 8 + d → p_local h l k j = p_local g l k j := by
  intro j hj
  rw [local_at, local_at, e j hj, e l (by omega)]
theorem ag_repl {h g : Nat → Int32} {v w : Int32} {t d : Nat} (e : ∀ j, j < 8 + d → h j = g j) : ∀ j, j < 8 + d → p_repl h v w t j = p_repl g v w t j := by
  intro j hj
  unfold p_repl
  rw [e j hj]
theorem ag_holds {h g : Nat → Int32} {v : Int32} {d : Nat} (e : ∀ j, j < 8 + d → h j = g j) : ∀ n, n ≤ d → p_holds h v n = p_holds g v n
  | 0, _ => rfl
  | n + 1, hn => by
    show (p_holds h v n || decide (h (8 + n) = v)) = (p_holds g v n || decide (g (8 + n) = v))
    rw [ag_holds e n (by omega), e (8 + n) (by omega)]
theorem ix_lt {v : Int64} {h : Nat} {hi : Int64} (hh : hi.toInt = h) (hb : h < 2 ^ 31) (c : r_isIn v 0 hi = true) : p_ix v ≤ h := by
  obtain ⟨t, -, h2, rfl⟩ := isIn_natL (l := 0) (by decide) hh hb c
  unfold p_ix
  rw [lN_i, nI_clamp (by omega)]
  exact h2
theorem ag_op {ops : Nat → Int32} {as : Nat → Int64} {k om : Nat} {pm : Nat → Nat} {i o : Int32} {v : Int64} {q z : PL} (h : agr q z) : agO (p_op ops as k om pm i o v q) (p_op ops as k om pm i o v z) := by
  have e := h.1
  unfold p_op
  refine agO.ite (fun _ => ag_push h) (fun _ => ?_)
  refine agO.ite (fun _ => ag_pushL h) (fun _ => ?_)
  refine agO.ite (fun _ => ag_push h) (fun _ => ?_)
  refine agO.ite (fun _ => ?_) (fun _ => ?_)
  · unfold p_3
    by_cases c : r_isIn v 0 7 = true
    · have hx := ix_lt (h := 7) (by decide) (by decide) c
      rw [h.2 (p_ix v) (by omega)]
      exact agO.ite (fun _ => ag_push h) (fun _ => rfl)
    · rw [if_neg (fun w => c w.1), if_neg (fun w => c w.1)]; exact rfl
  refine agO.ite (fun _ => ?_) (fun _ => ?_)
  · unfold p_4
    rw [ag_one h (by omega)]
    refine agO.ite (fun c => ?_) (fun _ => rfl)
    have hx := ix_lt (h := 7) (by decide) (by decide) c.1
    have hp : 0 < q.2 := by
      have := c.2
      unfold p_one at this
      simp only [Bool.and_eq_true, decide_eq_true_eq] at this
      rw [e]; exact this.1
    rw [← e, h.2 (8 + (q.2 - 1)) (by omega)]
    refine agO.some ⟨rfl, fun j hj => ?_⟩
    have hj : j < 8 + (q.2 - 1) := hj
    exact ag_local (by omega) (d := q.2) h.2 j (by omega)
  refine agO.ite (fun _ => ?_) (fun _ => ?_)
  · unfold p_5
    by_cases c : r_isIn v 0 6 = true
    · have hx := ix_lt (h := 6) (by decide) (by decide) c
      rw [h.2 (p_ix v) (by omega), h.2 (p_ix v + 1) (by omega)]
      exact agO.ite (fun _ => ag_pushL h) (fun _ => rfl)
    · rw [if_neg (fun w => c w.1), if_neg (fun w => c w.1)]; exact rfl
  refine agO.ite (fun _ => ?_) (fun _ => ?_)
  · unfold p_6
    refine agO.ite (fun c => (ag_popL h).bind (fun a b g => agO.some ⟨g.1, fun j hj => ?_⟩)) (fun _ => rfl)
    have hx := ix_lt (h := 6) (by decide) (by decide) c
    have hj : j < 8 + a.2 := hj
    show upd (p_local (p_local a.1 (p_ix v) 0) (p_ix v + 1) 3) (p_ix v) 2 j = upd (p_local (p_local b.1 (p_ix v) 0) (p_ix v + 1) 3) (p_ix v) 2 j
    by_cases w : j = p_ix v
    · rw [w, upd_same, upd_same]
    · rw [upd_oth w, upd_oth w]
      exact ag_local (by omega) (d := a.2) (ag_local (by omega) (d := a.2) g.2) j hj
  refine agO.ite (fun _ => ?_) (fun _ => ?_)
  · unfold p_7
    exact agO.ite (fun _ => (ag_pop h).bind (fun _ _ h => (ag_pop h).bind (fun _ _ h => ag_push h))) (fun _ => rfl)
  refine agO.ite (fun _ => ?_) (fun _ => ?_)
  · unfold p_8
    exact agO.ite (fun _ => (ag_popL h).bind (fun _ _ h => (ag_popL h).bind (fun _ _ h => ag_pushL h))) (fun _ => rfl)
  refine agO.ite (fun _ => (ag_pop h).bind (fun _ _ h => ag_pushL h)) (fun _ => ?_)
  refine agO.ite (fun _ => (ag_popL h).bind (fun _ _ h => ag_push h)) (fun _ => ?_)
  refine agO.ite (fun _ => (ag_popL h).bind (fun _ _ h => (ag_popL h).bind (fun _ _ h => ag_push h))) (fun _ => ?_)
  refine agO.ite (fun _ => ?_) (fun _ => ?_)
  · unfold p_new
    rw [← e, ag_holds (d := q.2) h.2 q.2 (Nat.le_refl _)]
    exact agO.ite (fun _ => agO.ite (fun _ => rfl) (fun _ => ag_push ⟨rfl, ag_repl (d := q.2) h.2⟩)) (fun _ => rfl)
  refine agO.ite (fun _ => ?_) (fun _ => ?_)
  · unfold p_made
    rw [← e]
    by_cases c : q.2 = 0
    · rw [if_neg (fun w => w.2.1 c), if_neg (fun w => w.2.1 c)]; exact rfl
    · rw [← h.2 (7 + q.2) (by omega)]
      refine agO.ite (fun _ => agO.some ⟨rfl, fun j hj => ?_⟩) (fun _ => rfl)
      have hj : j < 8 + (q.2 - 1) := hj
      exact ag_repl (d := q.2) h.2 j (by omega)
  refine agO.ite (fun _ => (ag_pop h).bind (fun _ _ h => ag_push h)) (fun _ => ?_)
  refine agO.ite (fun _ => ?_) (fun _ => ?_)
  · unfold p_15
    exact agO.ite (fun _ => (ag_pop h).bind (fun _ _ h => ag_push h)) (fun _ => rfl)
  unfold p_more
  have et : p_top q = p_top z := by
    unfold p_top
    rw [← e]
    by_cases c : 0 < q.2
    · rw [if_pos c, if_pos c, h.2 (7 + q.2) (by omega)]
    · rw [if_neg c, if_neg c]
  refine agO.ite (fun _ => ?_) (fun _ => ?_)
  · unfold p_16
    rw [et]
    exact agO.ite (fun _ => ag_push (ag_drop h)) (fun _ => rfl)
  refine agO.ite (fun _ => (ag_pop h).bind (fun _ _ h => (ag_pop h).bind (fun _ _ h => ag_push h))) (fun _ => ?_)
  refine agO.ite (fun _ => (ag_pop h).bind (fun _ _ h => (ag_pop h).bind (fun _ _ h => ag_pop h))) (fun _ => ?_)
  refine agO.ite (fun _ => (ag_pop h).bind (fun a b g => ?_)) (fun _ => ?_)
  · show agO (if ¬ a.2 = 0 ∧ p_isRowN (a.1 (7 + a.2)) = true then _ else _) (if ¬ b.2 = 0 ∧ p_isRowN (b.1 (7 + b.2)) = true then _ else _)
    rw [← g.1]
    by_cases c : a.2 = 0
    · rw [if_neg (fun w => w.1 c), if_neg (fun w => w.1 c)]; exact rfl
    · rw [← g.2 (7 + a.2) (by omega)]
      exact agO.ite (fun _ => ag_push (ag_drop g)) (fun _ => rfl)
  refine agO.ite (fun _ => (ag_pop h).bind (fun _ _ h => (ag_pop h).bind (fun a b g => ?_))) (fun _ => ?_)
  · show agO (if ¬ a.2 = 0 ∧ p_isRowN (a.1 (7 + a.2)) = true then _ else _) (if ¬ b.2 = 0 ∧ p_isRowN (b.1 (7 + b.2)) = true then _ else _)
    rw [← g.1]
    by_cases c : a.2 = 0
    · rw [if_neg (fun w => w.1 c), if_neg (fun w => w.1 c)]; exact rfl
    · rw [← g.2 (7 + a.2) (by omega)]
      exact agO.ite (fun _ => agO.some (ag_drop g)) (fun _ => rfl)
  refine agO.ite (fun _ => ?_) (fun _ => ?_)
  · unfold p_21
    exact agO.ite (fun _ => (ag_pop h).bind (fun _ _ h => ag_push h)) (fun _ => rfl)
  refine agO.ite (fun _ => (ag_pop h).bind (fun _ _ h => ag_push h)) (fun _ => ?_)
  refine agO.ite (fun _ => (ag_pop h).bind (fun _ _ h => ag_pop h)) (fun _ => ?_)
  refine agO.ite (fun _ => ?_) (fun _ => ?_)
  · unfold p_26
    rw [ag_one h (by omega)]
    refine agO.ite (fun c => ?_) (fun _ => rfl)
    unfold p_one at c
    simp only [Bool.and_eq_true, decide_eq_true_eq] at c
    rw [← e, h.2 (7 + q.2) (by omega)]
    exact ag_push h
  refine agO.ite (fun _ => ?_) (fun _ => ?_)
  · unfold p_27
    rw [ag_one h (by omega)]
    exact agO.ite (fun _ => agO.some (ag_drop h)) (fun _ => rfl)
  refine agO.ite (fun _ => ?_) (fun _ => ?_)
  · unfold p_28
    rw [ag_one h (by omega), ag_one h (by omega)]
    refine agO.ite (fun c => ?_) (fun _ => rfl)
    have c2 := c.2
    unfold p_one at c2
    simp only [Bool.and_eq_true, decide_eq_true_eq] at c2
    rw [← e, ← h.2 (7 + q.2) (by omega), ← h.2 (6 + q.2) (by omega)]
    refine agO.some ⟨rfl, fun j hj => ?_⟩
    have hj : j < 8 + q.2 := hj
    show upd (upd q.1 (7 + q.2) _) (6 + q.2) _ j = upd (upd z.1 (7 + q.2) _) (6 + q.2) _ j
    by_cases w : j = 6 + q.2
    · rw [w, upd_same, upd_same]
    · rw [upd_oth w, upd_oth w]
      by_cases w2 : j = 7 + q.2
      · rw [w2, upd_same, upd_same]
      · rw [upd_oth w2, upd_oth w2]; exact h.2 j hj
  refine agO.ite (fun _ => ?_) (fun _ => ?_)
  · unfold p_29
    exact agO.ite (fun _ => agO.some h) (fun _ => rfl)
  refine agO.ite (fun _ => ?_) (fun _ => ?_)
  · unfold p_30
    exact agO.ite (fun _ => ag_pop h) (fun _ => rfl)
  refine agO.ite (fun _ => ?_) (fun _ => ?_)
  · unfold p_30
    exact agO.ite (fun _ => ag_pop h) (fun _ => rfl)
  refine agO.ite (fun _ => ag_pop h) (fun _ => ?_)
  refine agO.ite (fun _ => ?_) (fun _ => rfl)
  unfold p_33
  exact agO.ite (fun _ => (ag_pops h _).bind (fun _ _ h => ag_push h)) (fun _ => rfl)
