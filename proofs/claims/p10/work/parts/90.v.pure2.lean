/-! KINDS and pairs are kept by an instruction -/
def Pd (h : Nat → Int32) : Prop := (∀ j, j < 7 → (h j = 2 ↔ h (j + 1) = 3)) ∧ h 7 ≠ 2 ∧ h 0 ≠ 3
def okP (q : PL) : Prop := (∀ j, j < 8 + q.2 → r_isKind (q.1 j) = true) ∧ Pd q.1
def okO (o : Option PL) : Prop := ∀ z, o = some z → okP z
theorem okOn : okO none := fun z h => by cases h
theorem okOs {q : PL} (h : okP q) : okO (some q) := fun z e => by cases e; exact h
theorem okO.bind {o : Option PL} {f : PL → Option PL} (h : okO o) (k : ∀ z, o = some z → okP z → okO (f z)) : okO (o.bind f) := by
  cases o with
  | none => exact okOn
  | some q => exact k q rfl (h q rfl)
theorem okO.ite {c : Prop} [Decidable c] {a b : Option PL} (h1 : c → okO a) (h2 : ¬ c → okO b) : okO (if c then a else b) := by
  by_cases z : c
  · rw [if_pos z]; exact h1 z
  · rw [if_neg z]; exact h2 z
theorem Pd.cong {h g : Nat → Int32} (P : Pd h) (e : ∀ j, j < 8 → g j = h j) : Pd g := by
  refine ⟨fun j hj => ?_, by rw [e 7 (by decide)]; exact P.2.1, by rw [e 0 (by decide)]; exact P.2.2⟩
  rw [e j (by omega), e (j + 1) (by omega)]
  exact P.1 j hj
theorem ok_push {q : PL} {k : Int32} (h : okP q) (hk : r_isKind k = true) : okO (p_push q k) := by
  unfold p_push
  refine okO.ite (fun _ => okOn) (fun _ => okOs ⟨fun j hj => ?_, h.2.cong (fun j hj => upd_oth (by omega))⟩)
  have hj : j < 8 + (q.2 + 1) := hj
  show r_isKind (upd q.1 (8 + q.2) k j) = true
  by_cases w : j = 8 + q.2
  · rw [w, upd_same]; exact hk
  · rw [upd_oth w]; exact h.1 j (by omega)
theorem ok_dropn {q : PL} {n : Nat} (h : okP q) : okP (q.1, q.2 - n) := ⟨fun j hj => h.1 j (by have hj : j < 8 + (q.2 - n) := hj; omega), h.2⟩
theorem ok_pop {q : PL} {k : Int32} (h : okP q) : okO (p_pop q k) := by
  unfold p_pop
  exact okO.ite (fun _ => okOn) (fun _ => okO.ite (fun _ => okOs (ok_dropn h)) (fun _ => okOn))
theorem ok_pushL {q : PL} (h : okP q) : okO (p_pushL q) := (ok_push h (by decide)).bind (fun _ _ h => ok_push h (by decide))
theorem ok_popL {q : PL} (h : okP q) : okO (p_popL q) := by
  unfold p_popL
  exact okO.ite (fun _ => okOs (ok_dropn h)) (fun _ => okOn)
theorem ok_pops {q : PL} (h : okP q) : ∀ n, okO (p_pops n q)
  | 0 => okOs h
  | n + 1 => (ok_pops h n).bind (fun _ _ h => ok_pop h)
theorem Pd_local {h : Nat → Int32} {l : Nat} {k : Int32} (P : Pd h) (h2 : k ≠ 2) (h3 : k ≠ 3) : Pd (p_local h l k) := by
  obtain ⟨P1, P2, P3⟩ := P
  have n02 : (0 : Int32) ≠ 2 := by decide
  have n03 : (0 : Int32) ≠ 3 := by decide
  have n23 : (2 : Int32) ≠ 3 := by decide
  have c2 : ∀ j, j < 8 → p_local h l k j = 2 → h j = 2 ∧ j ≠ l ∧ ¬ (j + 1 = l ∧ h l = 3) := by
    intro j _ e
    rw [local_at] at e
    by_cases w : j = l
    · rw [if_pos w] at e; exact absurd e h2
    · rw [if_neg w] at e
      by_cases c : (j + 1 = l ∧ h l = 3 ∧ h j = 2) ∨ (j = l + 1 ∧ l < 7 ∧ h l = 2 ∧ h j = 3)
      · rw [if_pos c] at e; exact absurd e n02
      · rw [if_neg c] at e
        exact ⟨e, w, fun z => c (Or.inl ⟨z.1, z.2, e⟩)⟩
  have c3 : ∀ j, j < 8 → p_local h l k j = 3 → h j = 3 ∧ j ≠ l ∧ ¬ (j = l + 1 ∧ l < 7 ∧ h l = 2) := by
    intro j _ e
    rw [local_at] at e
    by_cases w : j = l
    · rw [if_pos w] at e; exact absurd e h3
    · rw [if_neg w] at e
      by_cases c : (j + 1 = l ∧ h l = 3 ∧ h j = 2) ∨ (j = l + 1 ∧ l < 7 ∧ h l = 2 ∧ h j = 3)
      · rw [if_pos c] at e; exact absurd e n03
      · rw [if_neg c] at e
        exact ⟨e, w, fun z => c (Or.inr ⟨z.1, z.2.1, z.2.2, e⟩)⟩
  have b2 : ∀ j, j < 8 → h j = 2 → j ≠ l → ¬ (j + 1 = l ∧ h l = 3) → p_local h l k j = 2 := by
    intro j _ e w c
    rw [local_at, if_neg w, if_neg (fun z => z.elim (fun z => c ⟨z.1, z.2.1⟩) (fun z => n23 (e.symm.trans z.2.2.2)))]
    exact e
  have b3 : ∀ j, j < 8 → h j = 3 → j ≠ l → ¬ (j = l + 1 ∧ l < 7 ∧ h l = 2) → p_local h l k j = 3 := by
    intro j _ e w c
    rw [local_at, if_neg w, if_neg (fun z => z.elim (fun z => n23 (z.2.2.symm.trans e)) (fun z => c ⟨z.1, z.2.1, z.2.2.1⟩))]
    exact e
  refine ⟨fun j hj => ⟨fun e => ?_, fun e => ?_⟩, fun e => P2 (c2 7 (by decide) e).1, fun e => P3 (c3 0 (by decide) e).1⟩
  · obtain ⟨e1, e2, e3⟩ := c2 j (by omega) e
    have e4 := (P1 j hj).mp e1
    refine b3 (j + 1) (by omega) e4 (fun z => e3 ⟨z, by rw [← z]; exact e4⟩) (fun z => ?_)
    exact e2 (by omega)
  · obtain ⟨e1, e2, e3⟩ := c3 (j + 1) (by omega) e
    have e4 := (P1 j hj).mpr e1
    refine b2 j (by omega) e4 (fun z => e3 ⟨by omega, by omega, by rw [← z]; exact e4⟩) (fun z => e2 z.1)
theorem Pd_L {h : Nat → Int32} {l : Nat} (hl : l ≤ 6) (P : Pd h) : Pd (upd (p_local (p_local h l 0) (l + 1) 3) l 2) := by
  have Q := Pd_local (l := l) (k := 0) P (by decide) (by decide)
  have gl : p_local h l 0 l = 0 := by rw [local_at, if_pos rfl]
  generalize p_local h l 0 = g at Q gl ⊢
  obtain ⟨P1, P2, P3⟩ := Q
  have n02 : (0 : Int32) ≠ 2 := by decide
  have n03 : (0 : Int32) ≠ 3 := by decide
  have n23 : (2 : Int32) ≠ 3 := by decide
  have rl : upd (p_local g (l + 1) 3) l 2 l = 2 := upd_same
  have rl1 : upd (p_local g (l + 1) 3) l 2 (l + 1) = 3 := by rw [upd_oth (by omega), local_at, if_pos rfl]
  have r2 : ∀ j, j ≠ l → j ≠ l + 1 → (upd (p_local g (l + 1) 3) l 2 j = 2 ↔ g j = 2) := by
    intro j w1 w2
    rw [upd_oth w1, local_at, if_neg w2]
    by_cases c : (j + 1 = l + 1 ∧ g (l + 1) = 3 ∧ g j = 2) ∨ (j = l + 1 + 1 ∧ l + 1 < 7 ∧ g (l + 1) = 2 ∧ g j = 3)
    · rw [if_pos c]
      rcases c with c | c
      · omega
      · rw [c.2.2.2]
        exact ⟨fun z => absurd z n02, fun z => absurd z.symm n23⟩
    · rw [if_neg c]
  have r3 : ∀ j, j ≠ l → j ≠ l + 1 → (upd (p_local g (l + 1) 3) l 2 j = 3 ↔ (g j = 3 ∧ ¬ (j = l + 2 ∧ l + 1 < 7 ∧ g (l + 1) = 2))) := by
    intro j w1 w2
    rw [upd_oth w1, local_at, if_neg w2]
    by_cases c : (j + 1 = l + 1 ∧ g (l + 1) = 3 ∧ g j = 2) ∨ (j = l + 1 + 1 ∧ l + 1 < 7 ∧ g (l + 1) = 2 ∧ g j = 3)
    · rw [if_pos c]
      rcases c with c | c
      · omega
      · exact ⟨fun z => absurd z n03, fun z => absurd ⟨c.1, c.2.1, c.2.2.1⟩ z.2⟩
    · rw [if_neg c]
      exact ⟨fun z => ⟨z, fun w => c (Or.inr ⟨w.1, w.2.1, w.2.2, z⟩)⟩, fun z => z.1⟩
  refine ⟨fun j hj => ?_, fun e => ?_, fun e => ?_⟩
  · by_cases w : j = l
    · rw [w, rl, rl1]
      exact ⟨fun _ => rfl, fun _ => rfl⟩
    · by_cases w1 : j = l + 1
      · rw [w1, rl1, r3 (l + 1 + 1) (by omega) (by omega)]
        exact ⟨fun z => absurd z.symm n23, fun z => absurd ⟨rfl, by omega, (P1 (l + 1) (by omega)).mpr z.1⟩ z.2⟩
      · rw [r2 j w w1]
        by_cases w2 : j + 1 = l
        · rw [w2, rl]
          refine ⟨fun z => ?_, fun z => absurd z n23⟩
          have := (P1 j hj).mp z
          rw [w2, gl] at this
          exact absurd this n03
        · rw [r3 (j + 1) w2 (by omega), P1 j hj]
          exact ⟨fun z => ⟨z, fun y => by omega⟩, fun z => z.1⟩
  · by_cases w1 : 7 = l + 1
    · rw [w1, rl1] at e
      exact n23 e.symm
    · exact P2 ((r2 7 (by omega) w1).mp e)
  · by_cases w : 0 = l
    · subst w
      rw [rl] at e
      exact n23 e
    · exact P3 ((r3 0 w (by omega)).mp e).1
theorem kd_local {h : Nat → Int32} {l d : Nat} {k : Int32} (e : ∀ j, j < 8 + d → r_isKind (h j) = true) (hk : r_isKind k = true) : ∀ j, j < 8 + d → r_isKind (p_local h l k j) = true := by
  intro j hj
  rw [local_at]
  by_cases w : j = l
  · rw [if_pos w]; exact hk
  · rw [if_neg w]
    by_cases c : (j + 1 = l ∧ h l = 3 ∧ h j = 2) ∨ (j = l + 1 ∧ l < 7 ∧ h l = 2 ∧ h j = 3)
    · rw [if_pos c]; decide
    · rw [if_neg c]; exact e j hj
theorem one_ne {k : Int32} (h : r_one k = true) : k ≠ 2 ∧ k ≠ 3 := by
  constructor
  · rintro rfl; exact absurd h (by decide)
  · rintro rfl; exact absurd h (by decide)
theorem ok_repl {q : PL} {v w : Int32} {t : Nat} (h : okP q) (hv : v ≠ 2 ∧ v ≠ 3) (hw : r_isKind w = true) (hw2 : w ≠ 2 ∧ w ≠ 3) : okP (p_repl q.1 v w t, q.2) := by
  have e2 : ∀ (c : Int32), v ≠ c → w ≠ c → ∀ j, (p_repl q.1 v w t j = c ↔ q.1 j = c) := by
    intro c n1 n2 j
    unfold p_repl
    by_cases z : j < t ∧ q.1 j = v
    · rw [if_pos z, z.2]
      exact ⟨fun y => absurd y n2, fun y => absurd y n1⟩
    · rw [if_neg z]
  refine ⟨fun j hj => ?_, fun j hj => ?_, fun z => h.2.2.1 ((e2 2 hv.1 hw2.1 7).mp z), fun z => h.2.2.2 ((e2 3 hv.2 hw2.2 0).mp z)⟩
  · show r_isKind (p_repl q.1 v w t j) = true
    unfold p_repl
    by_cases z : j < t ∧ q.1 j = v
    · rw [if_pos z]; exact hw
    · rw [if_neg z]; exact h.1 j hj
  · show p_repl q.1 v w t j = 2 ↔ p_repl q.1 v w t (j + 1) = 3
    rw [e2 2 hv.1 hw2.1, e2 3 hv.2 hw2.2]
    exact h.2.1 j hj
theorem i_100 (a : Int32) : 100 + (a - 100) = a := by
  apply Int32.toBitVec_inj.mp
  apply BitVec.eq_of_toNat_eq
  simp only [Int32.toBitVec_add, Int32.toBitVec_sub, BitVec.toNat_add, BitVec.toNat_sub]
  have := a.toBitVec.isLt
  have e : (100 : Int32).toBitVec.toNat = 100 := by decide
  rw [e]
  omega
theorem kd_100 : ∀ n : Nat, n < 40 → r_isKind (100 + nI n) = true ∧ (100 + nI n ≠ 2) ∧ (100 + nI n ≠ 3) := by decide +kernel
theorem kd_cl {v : Int64} (h : r_isIn v 0 7 = true) : r_isKind (10 + v.toInt32) = true ∧ 10 + v.toInt32 ≠ 2 ∧ 10 + v.toInt32 ≠ 3 := by
  obtain ⟨t, -, h2, rfl⟩ := isIn_natL (l := 0) (h := 7) (by decide) (by decide) (by decide) h
  rw [lN_i]
  rcases (show t = 0 ∨ t = 1 ∨ t = 2 ∨ t = 3 ∨ t = 4 ∨ t = 5 ∨ t = 6 ∨ t = 7 by omega) with rfl | rfl | rfl | rfl | rfl | rfl | rfl | rfl <;> decide
theorem kd_cl5 {v : Int64} (h : r_isIn v 1 5 = true) : (r_isKind (10 + v.toInt32) = true ∧ 10 + v.toInt32 ≠ 2 ∧ 10 + v.toInt32 ≠ 3) ∧ r_isKind (20 + v.toInt32) = true := by
  obtain ⟨t, h1, h2, rfl⟩ := isIn_natL (l := 1) (h := 5) (by decide) (by decide) (by decide) h
  rw [lN_i]
  rcases (show t = 1 ∨ t = 2 ∨ t = 3 ∨ t = 4 ∨ t = 5 by omega) with rfl | rfl | rfl | rfl | rfl <;> decide
theorem kd_row {k : Int32} (h : p_isRowN k = true) : r_isKind (if k = 4 then 4 else 10 + k - 20) = true := by
  unfold p_isRowN at h
  by_cases c : k = 4
  · rw [if_pos c]; decide
  · rw [if_neg c]
    rw [decide_eq_false c, Bool.or_false] at h
    unfold r_isRow at h
    obtain ⟨t, h1, h2, -, rfl⟩ := isIn_nat (l := 21) (h := 25) (by decide) (by decide) h
    rcases (show t = 21 ∨ t = 22 ∨ t = 23 ∨ t = 24 ∨ t = 25 by omega) with rfl | rfl | rfl | rfl | rfl <;> decide
set_option maxHeartbeats 1000000 in
theorem ok_op {ops : Nat → Int32} {as : Nat → Int64} {k om ii : Nat} {pm : Nat → Nat} {i o : Int32} {v : Int64} {q : PL} (h : okP q) (hi : i = nI ii) (hii : ii < 40) (hom : om ≤ 40) : okO (p_op ops as k om pm i o v q) := by
  have d1 : okP (p_drop q) := ok_dropn h
  unfold p_op
  refine okO.ite (fun _ => ok_push h (by decide)) (fun _ => ?_)
  refine okO.ite (fun _ => ok_pushL h) (fun _ => ?_)
  refine okO.ite (fun _ => ok_push h (by decide)) (fun _ => ?_)
  refine okO.ite (fun _ => okO.ite (fun c => ok_push h (h.1 _ (by have := ix_lt (h := 7) (by decide) (by decide) c.1; omega))) (fun _ => okOn)) (fun _ => ?_)
  refine okO.ite (fun _ => okO.ite (fun c => okOs ?_) (fun _ => okOn)) (fun _ => ?_)
  · have hx := ix_lt (h := 7) (by decide) (by decide) c.1
    have c2 := c.2
    unfold p_one at c2
    simp only [Bool.and_eq_true, decide_eq_true_eq] at c2
    have ek : 8 + (q.2 - 1) = 7 + q.2 - 0 := by omega
    have n2 := one_ne c2.2
    rw [← ek] at n2
    exact ⟨fun j hj => kd_local (d := q.2) h.1 (h.1 _ (by omega)) j (by have hj : j < 8 + (q.2 - 1) := hj; omega), Pd_local h.2 n2.1 n2.2⟩
  refine okO.ite (fun _ => okO.ite (fun _ => ok_pushL h) (fun _ => okOn)) (fun _ => ?_)
  refine okO.ite (fun _ => okO.ite (fun c => (ok_popL h).bind (fun z _ hz => okOs ?_)) (fun _ => okOn)) (fun _ => ?_)
  · have hx := ix_lt (h := 6) (by decide) (by decide) c
    refine ⟨fun j hj => ?_, Pd_L hx hz.2⟩
    have hj : j < 8 + z.2 := hj
    show r_isKind (upd (p_local (p_local z.1 (p_ix v) 0) (p_ix v + 1) 3) (p_ix v) 2 j) = true
    by_cases w : j = p_ix v
    · rw [w, upd_same]; decide
    · rw [upd_oth w]
      exact kd_local (d := z.2) (kd_local (d := z.2) hz.1 (by decide)) (by decide) j hj
  refine okO.ite (fun _ => okO.ite (fun _ => (ok_pop h).bind (fun _ _ h => (ok_pop h).bind (fun _ _ h => ok_push h (by decide)))) (fun _ => okOn)) (fun _ => ?_)
  refine okO.ite (fun _ => okO.ite (fun _ => (ok_popL h).bind (fun _ _ h => (ok_popL h).bind (fun _ _ h => ok_pushL h))) (fun _ => okOn)) (fun _ => ?_)
  refine okO.ite (fun _ => (ok_pop h).bind (fun _ _ h => ok_pushL h)) (fun _ => ?_)
  refine okO.ite (fun _ => (ok_popL h).bind (fun _ _ h => ok_push h (by decide))) (fun _ => ?_)
  refine okO.ite (fun _ => (ok_popL h).bind (fun _ _ h => (ok_popL h).bind (fun _ _ h => ok_push h (by decide)))) (fun _ => ?_)
  refine okO.ite (fun _ => okO.ite (fun _ => okO.ite (fun _ => okOn) (fun _ => ?_)) (fun _ => okOn)) (fun _ => ?_)
  · have k1 := kd_100 ii hii
    rw [hi]
    exact ok_push (ok_repl h k1.2 (by decide) (by decide)) k1.1
  refine okO.ite (fun _ => okO.ite (fun c => okOs ?_) (fun _ => okOn)) (fun _ => ?_)
  · obtain ⟨c1, c2, c3, -⟩ := c
    obtain ⟨n, hn, en⟩ := isM_nat c3
    have k1 := kd_100 n (by omega)
    have ev : q.1 (7 + q.2) = 100 + nI n := by rw [← en]; exact (i_100 _).symm
    rw [ev]
    exact ok_repl (q := (q.1, q.2 - 1)) (ok_dropn h) k1.2 (kd_cl5 c1).1.1 (kd_cl5 c1).1.2
  refine okO.ite (fun _ => (ok_pop h).bind (fun _ _ h => ok_push h (by decide))) (fun _ => ?_)
  refine okO.ite (fun _ => okO.ite (fun c => (ok_pop h).bind (fun _ _ h => ok_push h (kd_cl5 c).2)) (fun _ => okOn)) (fun _ => ?_)
  unfold p_more
  refine okO.ite (fun _ => okO.ite (fun _ => ok_push d1 (by decide)) (fun _ => okOn)) (fun _ => ?_)
  refine okO.ite (fun _ => (ok_pop h).bind (fun _ _ h => (ok_pop h).bind (fun _ _ h => ok_push h (by decide)))) (fun _ => ?_)
  refine okO.ite (fun _ => (ok_pop h).bind (fun _ _ h => (ok_pop h).bind (fun _ _ h => ok_pop h))) (fun _ => ?_)
  refine okO.ite (fun _ => (ok_pop h).bind (fun z _ h => okO.ite (fun c => ok_push (ok_dropn h) (kd_row c.2)) (fun _ => okOn))) (fun _ => ?_)
  refine okO.ite (fun _ => (ok_pop h).bind (fun _ _ h => (ok_pop h).bind (fun _ _ h => okO.ite (fun _ => okOs (ok_dropn h)) (fun _ => okOn)))) (fun _ => ?_)
  refine okO.ite (fun _ => okO.ite (fun c => (ok_pop h).bind (fun _ _ h => ok_push h (by
    by_cases w : o = 21
    · rw [if_pos w]; exact (kd_cl c).1
    · rw [if_neg w]; decide))) (fun _ => okOn)) (fun _ => ?_)
  refine okO.ite (fun _ => (ok_pop h).bind (fun _ _ h => ok_push h (by decide))) (fun _ => ?_)
  refine okO.ite (fun _ => (ok_pop h).bind (fun _ _ h => ok_pop h)) (fun _ => ?_)
  refine okO.ite (fun _ => okO.ite (fun c => ok_push h (h.1 _ ?_)) (fun _ => okOn)) (fun _ => ?_)
  · unfold p_one at c
    simp only [Bool.and_eq_true, decide_eq_true_eq] at c
    omega
  refine okO.ite (fun _ => okO.ite (fun _ => okOs d1) (fun _ => okOn)) (fun _ => ?_)
  refine okO.ite (fun _ => okO.ite (fun c => okOs ?_) (fun _ => okOn)) (fun _ => ?_)
  · have c2 := c.2
    unfold p_one at c2
    simp only [Bool.and_eq_true, decide_eq_true_eq] at c2
    refine ⟨fun j hj => ?_, h.2.cong (fun j hj => ?_)⟩
    · have hj : j < 8 + q.2 := hj
      show r_isKind (upd (upd q.1 (7 + q.2) (q.1 (6 + q.2))) (6 + q.2) (q.1 (7 + q.2)) j) = true
      by_cases w : j = 6 + q.2
      · rw [w, upd_same]; exact h.1 _ (by omega)
      · rw [upd_oth w]
        by_cases w2 : j = 7 + q.2
        · rw [w2, upd_same]; exact h.1 _ (by omega)
        · rw [upd_oth w2]; exact h.1 j hj
    · show upd (upd q.1 (7 + q.2) (q.1 (6 + q.2))) (6 + q.2) (q.1 (7 + q.2)) j = q.1 j
      rw [upd_oth (by omega), upd_oth (by omega)]
  refine okO.ite (fun _ => okO.ite (fun _ => okOs h) (fun _ => okOn)) (fun _ => ?_)
  refine okO.ite (fun _ => okO.ite (fun _ => ok_pop h) (fun _ => okOn)) (fun _ => ?_)
  refine okO.ite (fun _ => okO.ite (fun _ => ok_pop h) (fun _ => okOn)) (fun _ => ?_)
  refine okO.ite (fun _ => ok_pop h) (fun _ => ?_)
  exact okO.ite (fun _ => okO.ite (fun _ => (ok_pops h _).bind (fun _ _ h => ok_push h (by decide))) (fun _ => okOn)) (fun _ => okOn)
