/-! RIGHT BY JOINING: a typing -/
theorem vle_z {c : Nat} (h : vle 0 c = true) : c = 0 := by
  simp only [vle, Bool.or_eq_true, Bool.and_eq_true, decide_eq_true_iff] at h
  omega
theorem begin_vc {n p : Nat} {h : Nat → Int32} (hp : p < 16) : vc (p_begin n h p) = 0 := by
  unfold p_begin
  have e := cpA_in (f := h) (g := fun k => if k < n then 1 else 0) (o := 0) (p := p) (n := 16) hp
  rw [Nat.zero_add] at e
  rw [e]
  by_cases c : p < n
  · simp only [if_pos c]; decide
  · simp only [if_neg c]; decide
/-- what the places come to say -/
def tau (y : RS) : (Nat → Nat) × (Nat → Nat → Int32) × (Nat → Prop) := (fun i => (y.2.1 11 i).toNatClampNeg, fun i p => y.2.1 12 (16 * i + p), fun i => ¬ y.2.1 11 i < 0)
abbrev Et (y : RS) : Ev := (y, (fun _ => (tau y).1), (fun _ => (tau y).2.1), (fun _ => (tau y).2.2), fun _ => True)
/-- n is come to with q -/
def gA (y : RS) (om : Nat) (b : Int32) (q : PL) : Prop := ∃ n, n < om ∧ b = nI n ∧ y.2.1 11 n = nI q.2 ∧ ∀ p, p < 8 + q.2 → vle (vc (q.1 p)) (vc (y.2.1 12 (16 * n + p))) = true
theorem gA_FT {y : RS} {k : Nat} {b : Int32} {q : PL} (hq : q.2 ≤ 8) (h : gA y (oM y k) b q) : FT (Et y) k b q := by
  obtain ⟨n, n1, n2, n3, n4⟩ := h
  refine ⟨n, n1, n2, ?_, ?_, n4⟩
  · show ¬ y.2.1 11 n < 0
    rw [n3]; exact nI_n0 (by omega)
  · show (y.2.1 11 n).toNatClampNeg = q.2
    rw [n3]; exact nI_clamp (by omega)
theorem fits_gA {y : RS} {om : Nat} {b : Int32} {q : PL} (h : fits_ y om b q) : gA y om b q := by
  obtain ⟨n, n1, n2, n3, n4⟩ := h
  refine ⟨n, n1, n2, n3, fun p hp => ?_⟩
  have := (vc_join (x := y.2.1 12 (16 * n + p)) (y := q.1 p)).2
  rw [n4 p hp] at this
  exact this
theorem takes_in {y : RS} {i p : Nat} {h : Nat → Int32} (hp : p < 16) : p_takes y i h p = y.2.1 12 (16 * i + p) := by
  unfold p_takes
  have e := cpA_in (f := h) (g := fun k => y.2.1 12 (16 * i + k)) (o := 0) (p := p) (n := 16) hp
  rw [Nat.zero_add] at e
  exact e
/-- what makes a typing out of what the places came to -/
def Gd (y : RS) (k om hn : Nat) (hf hto hat pm : Nat → Nat) (i : Nat) : Prop := ∃ (h : Nat → Int32) (d : Nat) (z : PL), d ≤ 8 ∧ y.2.1 11 i = nI d ∧ (∀ p, p < 16 → h p = y.2.1 12 (16 * i + p)) ∧ r_code y k om pm i (h, d) = some z ∧ (r_last (y.2.1 3 (40 * k + i)) = false → gA y om (nI (i + 1)) z) ∧ (r_leads (y.2.1 3 (40 * k + i)) = true → gA y om (y.2.2 4 (40 * k + i)).toInt32 z) ∧ ∀ g, g < hn → hf g ≤ i → i ≤ hto g - 1 → gA y om (nI (hat g)) (upd h 8 1, 1)
theorem typ_of {y : RS} {k : Nat} (h0 : 0 < oM y k) (h11 : y.2.1 11 0 = nI 0) (h12 : ∀ p, p < 8 → vc (y.2.1 12 (16 * 0 + p)) = 0) (hG : ∀ i, i < oM y k → ¬ y.2.1 11 i < 0 → Gd y k (oM y k) (hN y k) (hF y k) (hT y k) (hA y k) (pM y) i) : Tk y k (tau y) := by
  refine ⟨h0, ?_, ?_, h12, fun i hi hS => ?_⟩
  · show ¬ y.2.1 11 0 < 0
    rw [h11]; decide
  · show (y.2.1 11 0).toNatClampNeg = 0
    rw [h11]; rfl
  · obtain ⟨h, d, z, g1, g2, g3, g4, g5, g6, g7⟩ := hG i hi hS
    have e : eD (Et y) k i = d := by
      show (y.2.1 11 i).toNatClampNeg = d
      rw [g2]; exact nI_clamp (by omega)
    have z8 : z.2 ≤ 8 := p_op_le g4 (by show d ≤ 8; exact g1)
    refine ⟨by show eD (Et y) k i ≤ 8; rw [e]; exact g1, h, z, g3, ?_, fun w => gA_FT z8 (g5 w), fun w => gA_FT z8 (g6 w), fun g a b c => gA_FT (by show 1 ≤ 8; omega) (g7 g a b c)⟩
    show r_code y k (oM y k) (pM y) i (h, eD (Et y) k i) = some z
    rw [e]
    exact g4
theorem Cl_Gd {y : RS} {k om hn : Nat} {hf hto hat pm : Nat → Nat} {i : Nat} (h : Cl y k om hn hf hto hat pm i) : Gd y k om hn hf hto hat pm i := by
  obtain ⟨h, d, z, c1, c2, c3, c4, c5, c6⟩ := h
  refine ⟨p_takes y i h, d, z, c1, c2, fun p hp => takes_in hp, c3, fun w => ?_, fun w => fits_gA (c5 w), fun g a b c => ?_⟩
  · have := fits_gA (c4 w)
    rw [show nI i + 1 = nI (i + 1) from nadd (a := i) (b := 1) rfl rfl] at this
    exact this
  · obtain ⟨h2, d1, d2, d3⟩ := c6 g a b c
    obtain ⟨n, n1, n2, n3, n4⟩ := fits_gA d3
    refine ⟨n, n1, n2, n3, fun p hp => ?_⟩
    have hp : p < 8 + 1 := hp
    have hq := n4 p hp
    by_cases w : p = 8
    · subst w
      show vle (vc (upd (p_takes y i h) 8 1 8)) _ = true
      rw [upd_same]
      have hq : vle (vc (h2 8)) _ = true := hq
      rw [d2] at hq
      exact hq
    · show vle (vc (upd (p_takes y i h) 8 1 p)) _ = true
      rw [upd_oth w, takes_in (by omega), ← d1 p (by omega)]
      exact hq
theorem typ_join {y : RS} {k n : Nat} {h : Nat → Int32} (h0 : 0 < oM y k) (hE : jE y (p_begin n h)) (hC : ∀ i, i < oM y k → ¬ y.2.1 11 i < 0 → Cl y k (oM y k) (hN y k) (hF y k) (hT y k) (hA y k) (pM y) i) : Tk y k (tau y) := by
  refine typ_of h0 hE.1 (fun p hp => ?_) (fun i hi hS => Cl_Gd (hC i hi hS))
  have := hE.2 p (by omega)
  rw [begin_vc (by omega)] at this
  exact vle_z this
/-- the code that a typing of METHOD k speaks of is the same -/
def sameK (x y : RS) (k : Nat) : Prop := y.2.1 2 k = x.2.1 2 k ∧ y.2.1 5 k = x.2.1 5 k ∧ (∀ j, j < 24 → y.2.1 6 (24 * k + j) = x.2.1 6 (24 * k + j)) ∧ (∀ j, j < 40 → y.2.1 3 (40 * k + j) = x.2.1 3 (40 * k + j) ∧ y.2.2 4 (40 * k + j) = x.2.2 4 (40 * k + j)) ∧ ∀ t, t < k → y.2.1 1 t = x.2.1 1 t
theorem p_made_cong {ops ops' : Nat → Int32} {as as' : Nat → Int64} {om : Nat} {q : PL} {a : Int64} (h1 : ∀ j, j < om → ops' j = ops j) (h2 : ∀ j, j < om → as' j = as j) (ho : om < 1000) : p_made ops' as' om q a = p_made ops as om q a := by
  unfold p_made
  by_cases c : r_isM om (q.1 (7 + q.2) - 100) = true
  · obtain ⟨n, n1, n2⟩ := isM_nat c
    rw [n2, nI_clamp (by omega), h1 n n1, h2 n n1]
  · rw [if_neg (fun z => c z.2.2.1), if_neg (fun z => c z.2.2.1)]
theorem p_33_cong {k : Nat} {pm pm' : Nat → Nat} {v : Int64} {q : PL} (h : ∀ t, t < k → pm' t = pm t) (hk : k < 1000) : p_33 k pm' v q = p_33 k pm v q := by
  unfold p_33
  by_cases c : p_isL k v = true
  · obtain ⟨t, t1, t2⟩ := p_isL_nat hk c
    rw [t2, lN_i, nI_clamp (by omega), h t t1]
  · rw [if_neg c, if_neg c]
theorem p_op_cong {ops ops' : Nat → Int32} {as as' : Nat → Int64} {k om : Nat} {pm pm' : Nat → Nat} {i o : Int32} {v : Int64} {q : PL} (h1 : ∀ j, j < om → ops' j = ops j) (h2 : ∀ j, j < om → as' j = as j) (h3 : ∀ t, t < k → pm' t = pm t) (ho : om < 1000) (hk : k < 1000) : p_op ops' as' k om pm' i o v q = p_op ops as k om pm i o v q := by
  unfold p_op p_more
  rw [p_made_cong h1 h2 ho, p_33_cong h3 hk]
theorem Tk_eq {x y : RS} {k : Nat} {τ : (Nat → Nat) × (Nat → Nat → Int32) × (Nat → Prop)} (h : sameK x y k) (hk : k < 8) (hq : rq x k) (ht : Tk x k τ) : Tk y k τ := by
  obtain ⟨s2, s5, s6, s3, s1⟩ := h
  have ho := hq.2.1
  have hn := hq.2.2.2.1
  have eo : oM y k = oM x k := by unfold oM; rw [s2]
  have en : hN y k = hN x k := by unfold hN; rw [s5]
  have ef : ∀ g, g < 6 → hF y k g = hF x k g ∧ hT y k g = hT x k g ∧ hA y k g = hA x k g := by
    intro g hg
    unfold hF hT hA
    have e0 := s6 (4 * g) (by omega)
    have e1 := s6 (4 * g + 1) (by omega)
    have e2 := s6 (4 * g + 2) (by omega)
    rw [show 24 * k + 4 * g = 4 * (6 * k + g) by omega] at e0
    rw [show 24 * k + (4 * g + 1) = 4 * (6 * k + g) + 1 by omega] at e1
    rw [show 24 * k + (4 * g + 2) = 4 * (6 * k + g) + 2 by omega] at e2
    rw [e0, e1, e2]
    exact ⟨rfl, rfl, rfl⟩
  have hFT : ∀ b q, FT (x, (fun _ => τ.1), (fun _ => τ.2.1), (fun _ => τ.2.2), fun _ => True) k b q → FT (y, (fun _ => τ.1), (fun _ => τ.2.1), (fun _ => τ.2.2), fun _ => True) k b q := by
    rintro b q ⟨n, n1, n2⟩
    exact ⟨n, by show n < oM y k; rw [eo]; exact n1, n2⟩
  obtain ⟨t1, t2, t3, t4, t5⟩ := ht
  refine ⟨by show 0 < oM y k; rw [eo]; exact t1, t2, t3, t4, fun i hi hS => ?_⟩
  have hi : i < oM x k := by rw [← eo]; exact hi
  obtain ⟨u1, h, z, u2, u3, u4, u5, u6⟩ := t5 i hi hS
  have e3 := s3 i (by omega)
  refine ⟨u1, h, z, u2, ?_, fun w => ?_, fun w => ?_, fun g a b c => ?_⟩
  · show r_code y k (oM y k) (pM y) i _ = some z
    rw [eo]
    unfold r_code
    rw [e3.1, e3.2]
    rw [p_op_cong (ops := fun j => x.2.1 3 (40 * k + j)) (as := fun j => x.2.2 4 (40 * k + j)) (pm := pM x) (fun j hj => (s3 j (by omega)).1) (fun j hj => (s3 j (by omega)).2) (fun t ht => by unfold pM; rw [s1 t ht]) (by omega) (by omega)]
    exact u3
  · have w : r_last (y.2.1 3 (40 * k + i)) = false := w
    rw [e3.1] at w
    exact hFT _ _ (u4 w)
  · have w : r_leads (y.2.1 3 (40 * k + i)) = true := w
    rw [e3.1] at w
    show FT _ k (y.2.2 4 (40 * k + i)).toInt32 z
    rw [e3.2]
    exact hFT _ _ (u5 w)
  · have a : g < hN y k := a
    rw [en] at a
    obtain ⟨f1, f2, f3⟩ := ef g (by omega)
    have b : hF y k g ≤ i := b
    have c : i ≤ hT y k g - 1 := c
    rw [f1] at b; rw [f2] at c
    show FT _ k (nI (hA y k g)) _
    rw [f3]
    exact hFT _ _ (u6 g a b c)
