/-! THE REFERENCE: what holds between calls -/
theorem rq_of {y : RS} {k om hn : Nat} {hf hto hat hwh pm : Nat → Nat} (h : RC y k om hn hf hto hat hwh pm) : rq y k := by
  obtain ⟨h1, h2, h3, h4, h5, h6, h7⟩ := h
  have eo : oM y k = om := by unfold oM; rw [h1]; exact nI_clamp (by omega)
  have en : hN y k = hn := by unfold hN; rw [h3]; exact nI_clamp (by omega)
  refine ⟨by rw [eo]; exact h1, by rw [eo]; exact h2, by rw [en]; exact h3, by rw [en]; exact h4, fun g hg => ?_, fun t ht => ?_, h7⟩
  · rw [en] at hg
    obtain ⟨q1, q2, q3, q4, q5, q6, q7, q8⟩ := h5 g hg
    have e1 : hF y k g = hf g := by unfold hF; rw [q1]; exact nI_clamp (by omega)
    have e2 : hT y k g = hto g := by unfold hT; rw [q2]; exact nI_clamp (by omega)
    have e3 : hA y k g = hat g := by unfold hA; rw [q3]; exact nI_clamp (by omega)
    have e4 : hW y k g = hwh g := by unfold hW; rw [q4]; exact nI_clamp (by omega)
    rw [e1, e2, e3, e4]
    exact ⟨q1, q2, q3, q4, q5, q6, q7, q8⟩
  · obtain ⟨p1, p2⟩ := h6 t ht
    have e : pM y t = pm t := by unfold pM; rw [p1]; exact nI_clamp (by omega)
    rw [e]
    exact ⟨p1, p2⟩
theorem rq_eq {x y : RS} {k : Nat} (h1 : y.2.1 1 = x.2.1 1) (h2 : y.2.1 2 = x.2.1 2) (h5 : y.2.1 5 = x.2.1 5) (h6 : y.2.1 6 = x.2.1 6) (h7 : y.2.1 7 = x.2.1 7) (h : rq x k) : rq y k := by
  refine rq_of (om := oM x k) (hn := hN x k) (hf := hF x k) (hto := hT x k) (hat := hA x k) (hwh := hW x k) (pm := pM x) ?_
  unfold rq RC p_HH at h
  unfold RC p_HH
  rw [h1, h2, h5, h6, h7]
  exact h
def RInv (x : RS) : Prop := ∃ n, n ≤ 8 ∧ x.1 0 = nI n ∧ (∀ k, k < 8 → rq x k) ∧ (∀ k, k < 8 → x.2.1 9 k ≠ 0 → k < n ∧ ∃ τ, Tk x k τ) ∧ ∀ i, i < 40 → r_dp (x.2.1 11 i)
theorem same_of {x y : RS} {k : Nat} (h1 : y.2.1 1 = x.2.1 1) (h2 : y.2.1 2 = x.2.1 2) (h3 : y.2.1 3 = x.2.1 3) (h5 : y.2.1 5 = x.2.1 5) (h6 : y.2.1 6 = x.2.1 6) (h4 : y.2.2 4 = x.2.2 4) : sameK x y k := by
  unfold sameK
  rw [h1, h2, h3, h5, h6, h4]
  exact ⟨rfl, rfl, fun _ _ => rfl, fun _ _ => ⟨rfl, rfl⟩, fun _ _ => rfl⟩
theorem RI_CK {x y : RS} (h : RInv x) (c : CK x y) : RInv y := by
  obtain ⟨n, h1, h2, h3, h4, h5⟩ := h
  refine ⟨n, h1, by rw [c.2.1 0 (by decide)]; exact h2, fun k hk => rq_eq (c.1 1 (by decide)) (c.1 2 (by decide)) (c.1 5 (by decide)) (c.1 6 (by decide)) (c.1 7 (by decide)) (h3 k hk), fun k hk hr => ?_, by rw [c.1 11 (by decide)]; exact h5⟩
  rw [c.1 9 (by decide)] at hr
  obtain ⟨a, τ, b⟩ := h4 k hk hr
  exact ⟨a, τ, Tk_eq (same_of (c.1 1 (by decide)) (c.1 2 (by decide)) (c.1 3 (by decide)) (c.1 5 (by decide)) (c.1 6 (by decide)) c.2.2) hk (h3 k hk) b⟩
/-- METHOD k is judged -/
theorem RI_jdg {x y : RS} {k : Nat} {b : Bool} {q : PL} (h : RInv x) (hk : k < 8) (hkn : ∀ n, x.1 0 = nI n → n ≤ 8 → k < n) (e : ∀ j, j ≠ 11 → j ≠ 12 → j ≠ 14 → j ≠ 17 → y.2.1 j = x.2.1 j) (e0 : y.1 0 = x.1 0) (e4 : y.2.2 = x.2.2) (hd : ∀ i, i < 40 → r_dp (y.2.1 11 i)) (hT : b = true → ∃ τ, Tk y k τ) : RInv (sH (sA y 9 k (bI b)) q) := by
  obtain ⟨n, h1, h2, h3, h4, h5⟩ := h
  have g : ∀ j, j ≠ 9 → j ≠ 14 → (sH (sA y 9 k (bI b)) q).2.1 j = y.2.1 j := by
    intro j a c
    show va_up (sA y 9 k (bI b)).2.1 14 q.1 j = _
    have : va_up (sA y 9 k (bI b)).2.1 14 q.1 j = (sA y 9 k (bI b)).2.1 j := by simp [va_up, c]
    rw [this, sA_o a]
  have g9 : (sH (sA y 9 k (bI b)) q).2.1 9 = upd (x.2.1 9) k (bI b) := by
    show va_up (sA y 9 k (bI b)).2.1 14 q.1 9 = _
    have : va_up (sA y 9 k (bI b)).2.1 14 q.1 9 = (sA y 9 k (bI b)).2.1 9 := by simp [va_up]
    rw [this, sA_k, e 9 (by decide) (by decide) (by decide) (by decide)]
  have gx : ∀ j, j ≠ 9 → j ≠ 11 → j ≠ 12 → j ≠ 14 → j ≠ 17 → (sH (sA y 9 k (bI b)) q).2.1 j = x.2.1 j := fun j a b c d f => (g j a d).trans (e j b c d f)
  have g0 : (sH (sA y 9 k (bI b)) q).1 0 = y.1 0 := by
    show upd y.1 15 (nI q.2) 0 = _
    rw [upd_oth (by decide)]
  have e1 := gx 1 (by decide) (by decide) (by decide) (by decide) (by decide)
  have e2 := gx 2 (by decide) (by decide) (by decide) (by decide) (by decide)
  have e3 := gx 3 (by decide) (by decide) (by decide) (by decide) (by decide)
  have e5 := gx 5 (by decide) (by decide) (by decide) (by decide) (by decide)
  have e6 := gx 6 (by decide) (by decide) (by decide) (by decide) (by decide)
  have e7 := gx 7 (by decide) (by decide) (by decide) (by decide) (by decide)
  have e44 : (sH (sA y 9 k (bI b)) q).2.2 4 = x.2.2 4 := by
    show y.2.2 4 = _
    rw [e4]
  refine ⟨n, h1, by rw [g0, e0]; exact h2, fun m hm => rq_eq e1 e2 e5 e6 e7 (h3 m hm), fun m hm hr => ?_, fun i hi => by rw [g 11 (by decide) (by decide)]; exact hd i hi⟩
  rw [g9] at hr
  by_cases w : m = k
  · subst w
    rw [upd_same] at hr
    have hb : b = true := by
      cases b with
      | true => rfl
      | false => exact absurd rfl hr
    obtain ⟨τ, t⟩ := hT hb
    have hqy : rq y m := rq_eq (e 1 (by decide) (by decide) (by decide) (by decide)) (e 2 (by decide) (by decide) (by decide) (by decide)) (e 5 (by decide) (by decide) (by decide) (by decide)) (e 6 (by decide) (by decide) (by decide) (by decide)) (e 7 (by decide) (by decide) (by decide) (by decide)) (h3 m hm)
    exact ⟨hkn n h2 h1, τ, Tk_eq (same_of (g 1 (by decide) (by decide)) (g 2 (by decide) (by decide)) (g 3 (by decide) (by decide)) (g 5 (by decide) (by decide)) (g 6 (by decide) (by decide)) rfl) hm hqy t⟩
  · rw [upd_oth w] at hr
    obtain ⟨a, τ, t⟩ := h4 m hm hr
    exact ⟨a, τ, Tk_eq (same_of e1 e2 e3 e5 e6 e44) hm (h3 m hm) t⟩
/-- judging by FRAMES, whatever it says -/
def wk (y y' : RS) : Prop := (∀ k, k ≠ 11 → k ≠ 12 → y'.2.1 k = y.2.1 k) ∧ y'.1 = y.1 ∧ y'.2.2 = y.2.2 ∧ ((∀ i, i < 40 → r_dp (y.2.1 11 i)) → ∀ i, i < 40 → r_dp (y'.2.1 11 i))
theorem wk.rf {y : RS} : wk y y := ⟨fun _ _ _ => rfl, rfl, rfl, id⟩
theorem wk.tr {x y z : RS} (h : wk x y) (k : wk y z) : wk x z := ⟨fun q a b => (k.1 q a b).trans (h.1 q a b), k.2.1.trans h.2.1, k.2.2.1.trans h.2.2.1, fun q => k.2.2.2 (h.2.2.2 q)⟩
theorem wk_see {y : RS} {i : Nat} {q : PL} (hq : q.2 ≤ 8) : wk y (r_sees y i q) := by
  refine ⟨fun k a b => sees_o a b, rfl, rfl, fun h j hj => ?_⟩
  rw [sees_11]
  by_cases w : j = i
  · rw [w, upd_same]; exact r_dp_n hq
  · rw [upd_oth w]; exact h j hj
theorem wk_tail {k om hn : Nat} {hf hto hat pm : Nat → Nat} {rec : RS → PL → Bool → Int32 × RS} {i : Nat} {y : RS} {q : PL} (hq : q.2 ≤ 8) (hrec : ∀ z c, z.2 ≤ 8 → wk (r_sees y i q) (rec (r_sees y i q) z c).2) : wk y (r_tail k om hn hf hto hat pm rec i y q).2 := by
  unfold r_tail
  by_cases c1 : p_hfits (r_sees y i q) k om hf hto hat i q.1 hn = true
  · rw [if_pos c1]
    cases hc : r_code (r_sees y i q) k om pm i q with
    | none => exact wk_see hq
    | some z =>
      show wk y (if r_lead (r_sees y i q) k i z = true then rec (r_sees y i q) z (!r_last ((r_sees y i q).2.1 3 (40 * k + i))) else (nI i, r_sees y i q)).2
      by_cases c2 : r_lead (r_sees y i q) k i z = true
      · rw [if_pos c2]
        exact (wk_see hq).tr (hrec z _ (p_op_le hc hq))
      · rw [if_neg c2]; exact wk_see hq
  · rw [if_neg c1]; exact wk_see hq
theorem wk_wbf {k om hn : Nat} {hf hto hat pm : Nat → Nat} (ho : om ≤ 40) (hk : k < 8) : ∀ (u i : Nat) (y : RS) (q : PL) (c : Bool), i + u = om → q.2 ≤ 8 → (∀ j, j < 320 → r_dp (y.2.1 7 j)) → wk y (r_wbf k om hn hf hto hat pm u i y q c).2
  | 0, i, y, q, c, _, _, _ => wk.rf
  | u + 1, i, y, q, c, hu, hq, hd => by
    unfold r_wbf
    by_cases c1 : y.2.1 7 (40 * k + i) < 0
    · rw [if_pos c1]
      by_cases c2 : c = true
      · rw [if_pos c2]
        exact wk_tail hq (fun z c hz => wk_wbf ho hk u (i + 1) _ z c (by omega) hz (fun j hj => by rw [sees_o (by decide) (by decide)]; exact hd j hj))
      · rw [if_neg c2]; exact wk.rf
    · rw [if_neg c1]
      obtain ⟨dd, d8, hdd⟩ := r_dp_nat (hd (40 * k + i) (by omega)) c1
      have hcl : (y.2.1 7 (40 * k + i)).toNatClampNeg = dd := by rw [hdd]; exact nI_clamp (by omega)
      by_cases c2 : c = true ∧ p_gtf y (40 * k + i) q = false
      · rw [if_pos c2]; exact wk.rf
      · rw [if_neg c2]
        exact wk_tail (by show (y.2.1 7 (40 * k + i)).toNatClampNeg ≤ 8; omega) (fun z c hz => wk_wbf ho hk u (i + 1) _ z c (by omega) hz (fun j hj => by rw [sees_o (by decide) (by decide)]; exact hd j hj))
theorem any_nI (v : Int32) : ∃ d : Nat, v = nI d := by
  refine ⟨v.toBitVec.toNat, ?_⟩
  apply Int32.toBitVec_inj.mp
  apply BitVec.eq_of_toNat_eq
  simp [nI]
