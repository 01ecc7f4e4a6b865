/-! THE REFERENCE'S MACHINE: what its places hold -/
def TH (x : RS) (mk : Nat) : Prop := x.1 23 = nI mk ∧ mk ≤ 20 ∧ ∀ t, t < mk → ∃ z, z ≤ 30 ∧ x.2.1 25 t = nI z ∧ (x.2.1 24 t ≠ 50 → ∀ j, j < z → VT mk (x.2.1 24) 4 (x.2.2 27 (30 * t + j)))
def TV (x : RS) (f mk : Nat) (q : PL) : Prop := ∀ p, p < 8 + q.2 → VT mk (x.2.1 24) (vc (q.1 p)) (x.2.2 18 (16 * f + p))
def MV (x : RS) (f mk : Nat) (q : PL) : Prop := x.1 22 = nI f ∧ f < 8 ∧ x.2.1 19 f = nI q.2 ∧ q.2 ≤ 8 ∧ TH x mk ∧ TV x f mk q
/-- what a step at level f may change -/
def mr (x y : RS) (f : Nat) : Prop := (∀ k, k ≠ 19 → k ≠ 24 → k ≠ 25 → k ≠ 26 → y.2.1 k = x.2.1 k) ∧ (∀ k, k ≠ 23 → y.1 k = x.1 k) ∧ (∀ k, k ≠ 18 → k ≠ 27 → y.2.2 k = x.2.2 k) ∧ (∀ j, j ≠ f → y.2.1 19 j = x.2.1 19 j) ∧ ∀ j, ¬ (16 * f ≤ j ∧ j < 16 * f + 16) → y.2.2 18 j = x.2.2 18 j
def mo (x y : RS) (a b : Nat) : Prop := a ≤ b ∧ ∀ t, t < a → y.2.1 24 t = x.2.1 24 t
def lo (x y : RS) (f : Nat) : Prop := ∀ p, p < 8 → y.2.2 18 (16 * f + p) = x.2.2 18 (16 * f + p)
def mq (x y : RS) (f a b : Nat) : Prop := mr x y f ∧ mo x y a b ∧ lo x y f
theorem mr.rf {x : RS} {f : Nat} : mr x x f := ⟨fun _ _ _ _ _ => rfl, fun _ _ => rfl, fun _ _ _ => rfl, fun _ _ => rfl, fun _ _ => rfl⟩
theorem mr.tr {x y z : RS} {f : Nat} (h : mr x y f) (k : mr y z f) : mr x z f := ⟨fun i a b c d => (k.1 i a b c d).trans (h.1 i a b c d), fun i a => (k.2.1 i a).trans (h.2.1 i a), fun i a b => (k.2.2.1 i a b).trans (h.2.2.1 i a b), fun j a => (k.2.2.2.1 j a).trans (h.2.2.2.1 j a), fun j a => (k.2.2.2.2 j a).trans (h.2.2.2.2 j a)⟩
theorem mo.rf {x : RS} {a : Nat} : mo x x a a := ⟨Nat.le_refl _, fun _ _ => rfl⟩
theorem mo.tr {x y z : RS} {a b c : Nat} (h : mo x y a b) (k : mo y z b c) : mo x z a c := ⟨Nat.le_trans h.1 k.1, fun t ht => (k.2 t (Nat.lt_of_lt_of_le ht h.1)).trans (h.2 t ht)⟩
theorem mq.rf {x : RS} {f a : Nat} : mq x x f a a := ⟨mr.rf, mo.rf, fun _ _ => rfl⟩
theorem mq.tr {x y z : RS} {f a b c : Nat} (h : mq x y f a b) (k : mq y z f b c) : mq x z f a c := ⟨h.1.tr k.1, h.2.1.tr k.2.1, fun p hp => (k.2.2 p hp).trans (h.2.2 p hp)⟩
theorem VT_mo {a b : Nat} {so so' : Nat → Int32} {c : Nat} {v : Int64} (h : a ≤ b) (hs : ∀ t, t < a → so' t = so t) (hv : VT a so c v) : VT b so' c v := by
  unfold VT at hv ⊢
  split at hv
  · trivial
  · exact hv
  · rcases hv with e | ⟨n, h1, h2, h3⟩
    · exact Or.inl e
    · exact Or.inr ⟨n, by omega, h2, by rw [hs n h1]; exact h3⟩
  · rcases hv with e | ⟨n, h1, h2, h3⟩
    · exact Or.inl e
    · exact Or.inr ⟨n, by omega, h2, by rw [hs n h1]; exact h3⟩
  · rcases hv with e | ⟨n, h1, h2⟩
    · exact Or.inl e
    · exact Or.inr ⟨n, by omega, h2⟩
theorem sA_k (x : RS) (k f : Nat) (v : Int32) : (sA x k f v).2.1 k = upd (x.2.1 k) f v := by
  show va_up x.2.1 k (upd (x.2.1 k) f v) k = _
  simp [va_up]
theorem sA_19 (x : RS) (f : Nat) (v : Int32) : (sA x 19 f v).2.1 19 = upd (x.2.1 19) f v := sA_k x 19 f v
theorem sA_o {x : RS} {k j f : Nat} {v : Int32} (h : j ≠ k) : (sA x k f v).2.1 j = x.2.1 j := by
  show va_up x.2.1 k (upd (x.2.1 k) f v) j = _
  simp [va_up, h]
theorem sJ_k (x : RS) (k f : Nat) (v : Int64) : (sJ x k f v).2.2 k = vp_updL (x.2.2 k) f v := by
  show va_up x.2.2 k (vp_updL (x.2.2 k) f v) k = _
  simp [va_up]
theorem sJ_o {x : RS} {k j f : Nat} {v : Int64} (h : j ≠ k) : (sJ x k f v).2.2 j = x.2.2 j := by
  show va_up x.2.2 k (vp_updL (x.2.2 k) f v) j = _
  simp [va_up, h]
theorem updL_s (f : Nat → Int64) (k : Nat) (v : Int64) : vp_updL f k v k = v := by simp [vp_updL]
theorem updL_o {f : Nat → Int64} {k j : Nat} {v : Int64} (h : j ≠ k) : vp_updL f k v j = f j := by simp [vp_updL, h]
/-- fewer heights -/
theorem mvDrop {x : RS} {f mk : Nat} {q : PL} {e : Nat} (h : MV x f mk q) (he : e ≤ q.2) : MV (sA x 19 f (nI (q.2 - e))) f mk (q.1, q.2 - e) ∧ mq x (sA x 19 f (nI (q.2 - e))) f mk mk := by
  obtain ⟨h1, h2, h3, h4, h5, h6⟩ := h
  refine ⟨⟨h1, h2, ?_, by show q.2 - e ≤ 8; omega, ?_, ?_⟩, ⟨⟨fun k a b c d => sA_o a, fun _ _ => rfl, fun _ _ _ => rfl, fun j hj => ?_, fun _ _ => rfl⟩, ⟨Nat.le_refl _, fun t _ => by rw [sA_o (j := 24) (k := 19) (by decide)]⟩, fun _ _ => rfl⟩⟩
  · rw [sA_19]; simp [upd]
  · unfold TH at h5 ⊢
    rw [sA_o (j := 24) (k := 19) (by decide), sA_o (j := 25) (k := 19) (by decide)]
    exact h5
  · intro p hp
    have hp : p < 8 + (q.2 - e) := hp
    rw [sA_o (j := 24) (k := 19) (by decide)]
    exact h6 p (by omega)
  · rw [sA_19]; simp only [upd, if_neg hj]
theorem popE {q z : PL} {k : Int32} (h : p_pop q k = some z) : 1 ≤ q.2 ∧ r_goes (q.1 (7 + q.2)) k = true ∧ z = (q.1, q.2 - 1) := by
  unfold p_pop at h
  by_cases c : q.2 = 0
  · rw [if_pos c] at h; cases h
  · rw [if_neg c] at h
    by_cases c2 : r_goes (q.1 (7 + q.2)) k = true
    · rw [if_pos c2] at h; cases h; exact ⟨by omega, c2, rfl⟩
    · rw [if_neg c2] at h; cases h
theorem popLE {q z : PL} (h : p_popL q = some z) : 2 ≤ q.2 ∧ z = (q.1, q.2 - 2) := by
  unfold p_popL at h
  by_cases c : 2 ≤ q.2 ∧ q.1 (7 + q.2) = 3 ∧ q.1 (6 + q.2) = 2
  · rw [if_pos c] at h; cases h; exact ⟨c.1, rfl⟩
  · rw [if_neg c] at h; cases h
theorem pushE {q z : PL} {k : Int32} (h : p_push q k = some z) : ¬ q.2 = 8 ∧ z = (upd q.1 (8 + q.2) k, q.2 + 1) := by
  unfold p_push at h
  by_cases c : q.2 = 8
  · rw [if_pos c] at h; cases h
  · rw [if_neg c] at h; cases h; exact ⟨c, rfl⟩
theorem mvTop {x : RS} {f mk : Nat} {q : PL} (h : MV x f mk q) (h1 : 1 ≤ q.2) : VT mk (x.2.1 24) (vc (q.1 (7 + q.2))) (x.2.2 18 (16 * f + 8 + (q.2 - 1))) := by
  have := h.2.2.2.2.2 (7 + q.2) (by omega)
  rw [show 16 * f + (7 + q.2) = 16 * f + 8 + (q.2 - 1) by omega] at this
  exact this
theorem mvTake {x : RS} {f mk : Nat} {q z : PL} {k : Int32} (h : MV x f mk q) (hp : p_pop q k = some z) : 1 ≤ q.2 ∧ VT mk (x.2.1 24) (vc k) (x.2.2 18 (16 * f + 8 + (q.2 - 1))) ∧ MV (sA x 19 f (nI (q.2 - 1))) f mk z ∧ mq x (sA x 19 f (nI (q.2 - 1))) f mk mk := by
  obtain ⟨a, b, rfl⟩ := popE hp
  exact ⟨a, VT_le (vc_goes b) (vc_le _) (vc_le _) (mvTop h a), mvDrop h a⟩
theorem mvTakeL {x : RS} {f mk : Nat} {q z : PL} (h : MV x f mk q) (hp : p_popL q = some z) : 2 ≤ q.2 ∧ MV (sA x 19 f (nI (q.2 - 2))) f mk z ∧ mq x (sA x 19 f (nI (q.2 - 2))) f mk mk := by
  obtain ⟨a, rfl⟩ := popLE hp
  exact ⟨a, mvDrop h a⟩
theorem mvPut {x : RS} {f mk : Nat} {q z : PL} {k : Int32} {v : Int64} (h : MV x f mk q) (hp : p_push q k = some z) (hv : VT mk (x.2.1 24) (vc k) v) : q.2 < 8 ∧ MV (r_put x f q.2 v) f mk z ∧ mq x (r_put x f q.2 v) f mk mk := by
  obtain ⟨c, rfl⟩ := pushE hp
  obtain ⟨h1, h2, h3, h4, h5, h6⟩ := h
  have e18 : (r_put x f q.2 v).2.2 18 = vp_updL (x.2.2 18) (16 * f + 8 + q.2) v := sJ_k x 18 _ v
  have e24 : (r_put x f q.2 v).2.1 24 = x.2.1 24 := sA_o (x := sJ x 18 (16 * f + 8 + q.2) v) (by decide)
  refine ⟨by omega, ⟨h1, h2, ?_, by show q.2 + 1 ≤ 8; omega, ?_, ?_⟩, ⟨⟨fun k a b c d => sA_o (x := sJ x 18 (16 * f + 8 + q.2) v) a, fun _ _ => rfl, fun k a b => sJ_o (x := x) a, fun j hj => ?_, fun j hj => ?_⟩, ⟨Nat.le_refl _, fun t _ => by rw [e24]⟩, fun p hp => ?_⟩⟩
  · show (sA (sJ x 18 (16 * f + 8 + q.2) v) 19 f (nI (q.2 + 1))).2.1 19 f = _
    rw [sA_19]; simp [upd]
  · unfold TH at h5 ⊢
    have e25 : (r_put x f q.2 v).2.1 25 = x.2.1 25 := sA_o (x := sJ x 18 (16 * f + 8 + q.2) v) (by decide)
    have e27 : (r_put x f q.2 v).2.2 27 = x.2.2 27 := sJ_o (x := x) (k := 18) (j := 27) (f := 16 * f + 8 + q.2) (v := v) (by decide)
    rw [e24, e25, e27]
    exact h5
  · intro p hp
    have hp : p < 8 + (q.2 + 1) := hp
    show VT mk _ (vc (upd q.1 (8 + q.2) k p)) _
    rw [e18, e24]
    by_cases w : p = 8 + q.2
    · subst w
      rw [show 16 * f + (8 + q.2) = 16 * f + 8 + q.2 by omega, updL_s]
      simp only [upd, if_true]
      exact hv
    · rw [updL_o (by omega)]
      simp only [upd, if_neg w]
      exact h6 p (by omega)
  · show (sA (sJ x 18 (16 * f + 8 + q.2) v) 19 f (nI (q.2 + 1))).2.1 19 j = _
    rw [sA_19]; simp only [upd, if_neg hj]; rfl
  · rw [e18, updL_o (by omega)]
  · rw [e18, updL_o (by omega)]
theorem mvPutL {x : RS} {f mk : Nat} {q z : PL} {v : Int64} (h : MV x f mk q) (hp : p_pushL q = some z) : q.2 ≤ 6 ∧ MV (r_put2 x f q.2 v) f mk z ∧ mq x (r_put2 x f q.2 v) f mk mk := by
  unfold p_pushL at hp
  cases h1 : p_push q 2 with
  | none => rw [h1] at hp; cases hp
  | some w =>
    rw [h1] at hp
    have hp : p_push w 3 = some z := hp
    obtain ⟨a1, a2, a3⟩ := mvPut (v := v) h h1 (show VT mk _ 0 v from trivial)
    obtain ⟨b1, b2, b3⟩ := mvPut (v := 0) a2 hp (show VT mk _ 0 0 from trivial)
    obtain ⟨c, e⟩ := pushE h1
    have e2 : w.2 = q.2 + 1 := by rw [e]
    rw [e2] at b1 b2 b3
    exact ⟨by omega, b2, a3.tr b3⟩
/-- a place ahead of the heights is set -/
theorem mvSet {x : RS} {f mk d a : Nat} {q q' : Nat → Int32} {v : Int64} (h : MV x f mk (q, d)) (ha : a < 16) (hle : ∀ p, p < 8 + d → p ≠ a → vle (vc (q p)) (vc (q' p)) = true) (hv : VT mk (x.2.1 24) (vc (q' a)) v) : MV (sJ x 18 (16 * f + a) v) f mk (q', d) ∧ mr x (sJ x 18 (16 * f + a) v) f ∧ mo x (sJ x 18 (16 * f + a) v) mk mk := by
  obtain ⟨h1, h2, h3, h4, h5, h6⟩ := h
  have e18 : (sJ x 18 (16 * f + a) v).2.2 18 = vp_updL (x.2.2 18) (16 * f + a) v := sJ_k x 18 _ v
  refine ⟨⟨h1, h2, h3, h4, ?_, ?_⟩, ⟨fun _ _ _ _ _ => rfl, fun _ _ => rfl, fun k a b => sJ_o a, fun _ _ => rfl, fun j hj => ?_⟩, ⟨Nat.le_refl _, fun _ _ => rfl⟩⟩
  · unfold TH at h5 ⊢
    have e27 : (sJ x 18 (16 * f + a) v).2.2 27 = x.2.2 27 := sJ_o (by decide)
    rw [e27]
    exact h5
  · intro p hp
    have hp : p < 8 + d := hp
    show VT mk (x.2.1 24) (vc (q' p)) _
    rw [e18]
    by_cases w : p = a
    · subst w
      rw [updL_s]
      exact hv
    · rw [updL_o (by omega)]
      exact VT_le (hle p hp w) (vc_le _) (vc_le _) (h6 p hp)
  · rw [e18, updL_o (by omega)]
theorem mvLe {x : RS} {f mk d : Nat} {q q' : Nat → Int32} (h : MV x f mk (q, d)) (hle : ∀ p, p < 8 + d → vle (vc (q p)) (vc (q' p)) = true) : MV x f mk (q', d) := by
  obtain ⟨h1, h2, h3, h4, h5, h6⟩ := h
  exact ⟨h1, h2, h3, h4, h5, fun p hp => VT_le (hle p hp) (vc_le _) (vc_le _) (h6 p hp)⟩
theorem fmJ_out {f : Nat → Int64} {v : Int64} {o j : Nat} : ∀ {n : Nat}, ¬ (o ≤ j ∧ j < o + n) → fmJ f o v n j = f j
  | 0, _ => rfl
  | n + 1, h => by
    show vp_updL (fmJ f o v n) (o + n) v j = f j
    rw [updL_o (by omega)]
    exact fmJ_out (by omega)
theorem fmJ_in {f : Nat → Int64} {v : Int64} {o p : Nat} : ∀ {n : Nat}, p < n → fmJ f o v n (o + p) = v
  | 0, h => by omega
  | n + 1, h => by
    show vp_updL (fmJ f o v n) (o + n) v (o + p) = v
    by_cases z : p = n
    · subst z; exact updL_s _ _ _
    · rw [updL_o (by omega)]
      exact fmJ_in (by omega)
theorem mvMake {x : RS} {f mk z : Nat} {q : PL} {a : Int32} (h : MV x f mk q) (hm : mk < 20) (hz : z ≤ 30) : MV (r_make x mk z a) f (mk + 1) q ∧ mq x (r_make x mk z a) f mk (mk + 1) ∧ (r_make x mk z a).2.1 24 mk = a := by
  obtain ⟨h1, h2, h3, h4, h5, h6⟩ := h
  have e24 : (r_make x mk z a).2.1 24 = upd (x.2.1 24) mk a := by
    show (sA (sA (sA x 24 mk a) 25 mk (nI z)) 26 mk 0).2.1 24 = _
    rw [sA_o (j := 24) (k := 26) (by decide), sA_o (j := 24) (k := 25) (by decide), sA_k]
  have e25 : (r_make x mk z a).2.1 25 = upd (x.2.1 25) mk (nI z) := by
    show (sA (sA (sA x 24 mk a) 25 mk (nI z)) 26 mk 0).2.1 25 = _
    rw [sA_o (j := 25) (k := 26) (by decide), sA_k, sA_o (j := 25) (k := 24) (by decide)]
  have eO : ∀ k, k ≠ 24 → k ≠ 25 → k ≠ 26 → (r_make x mk z a).2.1 k = x.2.1 k := by
    intro k c1 c2 c3
    show (sA (sA (sA x 24 mk a) 25 mk (nI z)) 26 mk 0).2.1 k = _
    rw [sA_o c3, sA_o c2, sA_o c1]
  have e27 : (r_make x mk z a).2.2 27 = fmJ (x.2.2 27) (30 * mk) (if a = 50 then 0 else -1) z := by
    show va_up x.2.2 27 (fmJ (x.2.2 27) (30 * mk) (if a = 50 then 0 else -1) z) 27 = _
    simp [va_up]
  have eJ : ∀ k, k ≠ 27 → (r_make x mk z a).2.2 k = x.2.2 k := by
    intro k c1
    show va_up x.2.2 27 (fmJ (x.2.2 27) (30 * mk) (if a = 50 then 0 else -1) z) k = _
    simp [va_up, c1]
  have eS : ∀ k, k ≠ 23 → (r_make x mk z a).1 k = x.1 k := by
    intro k c1
    show upd x.1 23 (nI (mk + 1)) k = _
    simp [upd, c1]
  have e23 : (r_make x mk z a).1 23 = nI (mk + 1) := by
    show upd x.1 23 (nI (mk + 1)) 23 = _
    simp [upd]
  have so : ∀ t, t < mk → (r_make x mk z a).2.1 24 t = x.2.1 24 t := by
    intro t ht
    rw [e24]
    have c : t ≠ mk := by omega
    simp only [upd, if_neg c]
  have sm : (r_make x mk z a).2.1 24 mk = a := by rw [e24]; simp [upd]
  refine ⟨⟨by rw [eS 22 (by decide)]; exact h1, h2, by rw [eO 19 (by decide) (by decide) (by decide)]; exact h3, h4, ⟨e23, by omega, fun t ht => ?_⟩, fun p hp => ?_⟩, ⟨⟨fun k _ b c d => eO k b c d, eS, fun k _ b => eJ k b, fun j _ => by rw [eO 19 (by decide) (by decide) (by decide)], fun j _ => by rw [eJ 18 (by decide)]⟩, ⟨by omega, so⟩, fun p _ => by rw [eJ 18 (by decide)]⟩, sm⟩
  · by_cases w : t = mk
    · subst w
      refine ⟨z, hz, by rw [e25]; simp [upd], fun hs j hj => ?_⟩
      rw [sm] at hs
      rw [e27, fmJ_in hj, if_neg hs]
      exact Or.inl rfl
    · obtain ⟨u, u1, u2, u3⟩ := h5.2.2 t (by omega)
      refine ⟨u, u1, by rw [e25]; simp only [upd, if_neg w]; exact u2, fun hs j hj => ?_⟩
      rw [so t (by omega)] at hs
      rw [e27, fmJ_out (by omega)]
      exact VT_mo (by omega) so (u3 hs j hj)
  · rw [eJ 18 (by decide)]
    exact VT_mo (by omega) so (h6 p hp)
