/-! THE REFERENCE'S MACHINE: its levels -/
def oM (x : RS) (k : Nat) : Nat := (x.2.1 2 k).toNatClampNeg
def hN (x : RS) (k : Nat) : Nat := (x.2.1 5 k).toNatClampNeg
def hF (x : RS) (k g : Nat) : Nat := (x.2.1 6 (4 * (6 * k + g))).toNatClampNeg
def hT (x : RS) (k g : Nat) : Nat := (x.2.1 6 (4 * (6 * k + g) + 1)).toNatClampNeg
def hA (x : RS) (k g : Nat) : Nat := (x.2.1 6 (4 * (6 * k + g) + 2)).toNatClampNeg
def hW (x : RS) (k g : Nat) : Nat := (x.2.1 6 (4 * (6 * k + g) + 3)).toNatClampNeg
def pM (x : RS) (t : Nat) : Nat := (x.2.1 1 t).toNatClampNeg
def rq (x : RS) (k : Nat) : Prop := RC x k (oM x k) (hN x k) (hF x k) (hT x k) (hA x k) (hW x k) (pM x)
/-- a state with typings: its METHODS' depths, KINDS, the places come to, the METHODS in question -/
abbrev Ev := RS × (Nat → Nat → Nat) × (Nat → Nat → Nat → Int32) × (Nat → Nat → Prop) × (Nat → Prop)
def eD (E : Ev) := E.2.1
def eT (E : Ev) := E.2.2.1
def eS (E : Ev) := E.2.2.2.1
def eR (E : Ev) := E.2.2.2.2
def eOp (E : Ev) (k i : Nat) : Int32 := E.1.2.1 3 (40 * k + i)
def eA (E : Ev) (k i : Nat) : Int64 := E.1.2.2 4 (40 * k + i)
def FT (E : Ev) (k : Nat) (b : Int32) (q : PL) : Prop := ∃ n, n < oM E.1 k ∧ b = nI n ∧ eS E k n ∧ eD E k n = q.2 ∧ ∀ p, p < 8 + q.2 → vle (vc (q.1 p)) (vc (eT E k n p)) = true
def Ty (E : Ev) (k : Nat) : Prop := 0 < oM E.1 k ∧ eS E k 0 ∧ eD E k 0 = 0 ∧ (∀ p, p < 8 → vc (eT E k 0 p) = 0) ∧ ∀ i, i < oM E.1 k → eS E k i → eD E k i ≤ 8 ∧ ∃ (h : Nat → Int32) (z : PL), (∀ p, p < 16 → h p = eT E k i p) ∧ r_code E.1 k (oM E.1 k) (pM E.1) i (h, eD E k i) = some z ∧ (r_last (eOp E k i) = false → FT E k (nI (i + 1)) z) ∧ (r_leads (eOp E k i) = true → FT E k (eA E k i).toInt32 z) ∧ ∀ g, g < hN E.1 k → hF E.1 k g ≤ i → i ≤ hT E.1 k g - 1 → FT E k (nI (hA E.1 k g)) (upd h 8 1, 1)
def EO (E : Ev) : Prop := ∀ k, eR E k → k < 8 ∧ rq E.1 k ∧ Ty E k ∧ ∀ i, i < oM E.1 k → eOp E k i = 33 → ∀ t, eA E k i = lN t → t < k → eR E t
/-- only the machine has changed -/
def CK (x y : RS) : Prop := (∀ k, k < 19 → y.2.1 k = x.2.1 k) ∧ (∀ k, k < 22 → y.1 k = x.1 k) ∧ y.2.2 4 = x.2.2 4
theorem CK.rf {x : RS} : CK x x := ⟨fun _ _ => rfl, fun _ _ => rfl, rfl⟩
theorem CK.tr {x y z : RS} (h : CK x y) (k : CK y z) : CK x z := ⟨fun i a => (k.1 i a).trans (h.1 i a), fun i a => (k.2.1 i a).trans (h.2.1 i a), k.2.2.trans h.2.2⟩
theorem CK_S {x y : RS} {k : Nat} {v : Int32} (h : CK x y) (hk : 22 ≤ k) : CK x (sS y k v) := by
  refine ⟨h.1, fun j hj => ?_, h.2.2⟩
  show upd y.1 k v j = _
  rw [upd_oth (by omega)]
  exact h.2.1 j hj
theorem CK_A {x y : RS} {k n : Nat} {v : Int32} (h : CK x y) (hk : 19 ≤ k) : CK x (sA y k n v) := ⟨fun j hj => (sA_o (by omega)).trans (h.1 j hj), h.2.1, h.2.2⟩
theorem CK_mr {x y z : RS} {f : Nat} (h : CK x y) (k : mr y z f) : CK x z := ⟨fun i a => (k.1 i (by omega) (by omega) (by omega) (by omega)).trans (h.1 i a), fun i a => (k.2.1 i (by omega)).trans (h.2.1 i a), (k.2.2.1 4 (by omega) (by omega)).trans h.2.2⟩
def LB (E : Ev) (x : RS) (l mk k i : Nat) : Prop := x.2.1 20 l = nI k ∧ x.2.1 21 l = nI i ∧ eR E k ∧ i < oM E.1 k ∧ eS E k i ∧ l + k ≤ 7 ∧ ∀ p, p < 8 → VT mk (x.2.1 24) (vc (eT E k i p)) (x.2.2 18 (16 * l + p))
def WT (E : Ev) (x : RS) (l mk k i : Nat) : Prop := ∃ w z : PL, x.2.1 19 l = nI w.2 ∧ w.2 ≤ 8 ∧ TV x l mk w ∧ p_push w 1 = some z ∧ FT E k (nI (i + 1)) z
def LW (E : Ev) (x : RS) (f mk : Nat) : Prop := ∀ l, l < f → ∃ k i, LB E x l mk k i ∧ WT E x l mk k i
def MI (E : Ev) (x : RS) (f mk : Nat) : Prop := CK E.1 x ∧ LW E x f mk ∧ ∃ k i, LB E x f mk k i ∧ MV x f mk (eT E k i, eD E k i)
def FI (E : Ev) (x : RS) (f mk : Nat) : Prop := CK E.1 x ∧ LW E x f mk ∧ (∃ k i, LB E x f mk k i) ∧ x.1 22 = nI f ∧ f < 8 ∧ TH x mk
/-- what leaves the levels under f as they are -/
def lw (x y : RS) (f a b : Nat) : Prop := (∀ j, j < f → y.2.1 19 j = x.2.1 19 j ∧ y.2.1 20 j = x.2.1 20 j ∧ y.2.1 21 j = x.2.1 21 j) ∧ (∀ j, j < 16 * f → y.2.2 18 j = x.2.2 18 j) ∧ mo x y a b
theorem LW_lw {E : Ev} {x y : RS} {f a b : Nat} (h : LW E x f a) (k : lw x y f a b) : LW E y f b := by
  intro l hl
  obtain ⟨m, i, ⟨l1, l2, l3, l4, l5, l6, l7⟩, ⟨w, z, w1, w2, w3, w4, w5⟩⟩ := h l hl
  obtain ⟨e19, e20, e21⟩ := k.1 l hl
  refine ⟨m, i, ⟨by rw [e20]; exact l1, by rw [e21]; exact l2, l3, l4, l5, l6, fun p hp => ?_⟩, ⟨w, z, by rw [e19]; exact w1, w2, fun p hp => ?_, w4, w5⟩⟩
  · rw [k.2.1 _ (by omega)]
    exact VT_mo k.2.2.1 k.2.2.2 (l7 p hp)
  · rw [k.2.1 _ (by omega)]
    exact VT_mo k.2.2.1 k.2.2.2 (w3 p hp)
theorem lw_mr {x y : RS} {f a b : Nat} (h : mr x y f) (k : mo x y a b) : lw x y f a b := ⟨fun j hj => ⟨h.2.2.2.1 j (by omega), by rw [h.1 20 (by decide) (by decide) (by decide) (by decide)], by rw [h.1 21 (by decide) (by decide) (by decide) (by decide)]⟩, fun j hj => h.2.2.2.2 j (by omega), k⟩
theorem lw_A {x y : RS} {f a b k n : Nat} {v : Int32} (h : lw x y f a b) (hn : f ≤ n) (hk : k ≠ 24) : lw x (sA y k n v) f a b := by
  have e : ∀ q j, j < f → (sA y k n v).2.1 q j = y.2.1 q j := by
    intro q j hj
    by_cases w : q = k
    · subst w
      rw [sA_k, upd_oth (by omega)]
    · rw [sA_o w]
  refine ⟨fun j hj => ?_, h.2.1, ⟨h.2.2.1, fun t ht => ?_⟩⟩
  · rw [e 19 j hj, e 20 j hj, e 21 j hj]
    exact h.1 j hj
  · rw [sA_o (fun z => hk z.symm)]
    exact h.2.2.2 t ht
theorem lw_rf {x : RS} {f a : Nat} : lw x x f a a := ⟨fun _ _ => ⟨rfl, rfl, rfl⟩, fun _ _ => rfl, mo.rf⟩
theorem LB_mr {E : Ev} {x y : RS} {f a b k i : Nat} (h : LB E x f a k i) (m : mr x y f) (o : mo x y a b) (lo_ : lo x y f) : LB E y f b k i := by
  obtain ⟨l1, l2, l3, l4, l5, l6, l7⟩ := h
  refine ⟨by rw [m.1 20 (by decide) (by decide) (by decide) (by decide)]; exact l1, by rw [m.1 21 (by decide) (by decide) (by decide) (by decide)]; exact l2, l3, l4, l5, l6, fun p hp => ?_⟩
  rw [lo_ p hp]
  exact VT_mo o.1 o.2 (l7 p hp)
theorem MV_A {x : RS} {f mk k n : Nat} {v : Int32} {q : PL} (h : MV x f mk q) (hk : k = 20 ∨ k = 21) : MV (sA x k n v) f mk q := by
  obtain ⟨h1, h2, h3, h4, h5, h6⟩ := h
  have e19 : (sA x k n v).2.1 19 = x.2.1 19 := sA_o (by omega)
  have e24 : (sA x k n v).2.1 24 = x.2.1 24 := sA_o (by omega)
  have e25 : (sA x k n v).2.1 25 = x.2.1 25 := sA_o (by omega)
  refine ⟨h1, h2, by rw [e19]; exact h3, h4, ?_, fun p hp => by rw [e24]; exact h6 p hp⟩
  unfold TH at h5 ⊢
  rw [e24, e25]
  exact h5
theorem TH_S {x : RS} {mk k : Nat} {v : Int32} (h : TH x mk) (hk : k ≠ 23) : TH (sS x k v) mk := by
  refine ⟨?_, h.2⟩
  show upd x.1 k v 23 = _
  rw [upd_oth (fun z => hk z.symm)]
  exact h.1
theorem sS_k (x : RS) (k : Nat) (v : Int32) : (sS x k v).1 k = v := upd_same
theorem sS_o {x : RS} {k j : Nat} {v : Int32} (h : j ≠ k) : (sS x k v).1 j = x.1 j := upd_oth h
/-- the level goes to where it leads -/
theorem MI_to {E : Ev} {y : RS} {f mk k : Nat} {b : Int32} {z : PL} (hc : CK E.1 y) (hl : LW E y f mk) (hm : y.2.1 20 f = nI k) (hr : eR E k) (h7 : f + k ≤ 7) (hV : MV y f mk z) (hF : FT E k b z) : MI E (sA y 21 f b) f mk := by
  obtain ⟨n, n1, rfl, n3, n4, n5⟩ := hF
  have hV2 : MV (sA y 21 f (nI n)) f mk (eT E k n, eD E k n) := by
    rw [n4]
    exact mvLe (q := z.1) (q' := eT E k n) (d := z.2) (MV_A hV (Or.inr rfl)) n5
  refine ⟨CK_A hc (by decide), LW_lw hl (lw_A lw_rf (Nat.le_refl _) (by decide)), k, n, ⟨?_, ?_, hr, n1, n3, h7, fun p hp => ?_⟩, hV2⟩
  · rw [sA_o (by decide)]; exact hm
  · rw [sA_k, upd_same]
  · exact hV2.2.2.2.2.2 p (by show p < 8 + eD E k n; omega)
theorem p_popsE {q : PL} : ∀ {n : Nat} {z : PL}, p_pops n q = some z → n ≤ q.2 ∧ z = (q.1, q.2 - n)
  | 0, z, h => by cases h; exact ⟨Nat.zero_le _, rfl⟩
  | n + 1, z, h => by
    cases h1 : p_pops n q with
    | none => rw [p_pops, h1] at h; cases h
    | some w =>
      rw [p_pops, h1] at h
      have h : p_pop w 1 = some z := h
      obtain ⟨a, rfl⟩ := p_popsE h1
      obtain ⟨b, -, rfl⟩ := popE h
      have b : 1 ≤ q.2 - n := b
      exact ⟨by omega, by show (q.1, q.2 - n - 1) = _; rw [Nat.sub_sub]⟩
/-- what a CALL leaves -/
def cl_ (x y : RS) (f t d pm : Nat) : Prop := y.1 = upd x.1 22 (nI (f + 1)) ∧ (∀ k, k ≠ 19 → k ≠ 20 → k ≠ 21 → y.2.1 k = x.2.1 k) ∧ y.2.1 19 = upd (upd (x.2.1 19) f (nI (d - pm))) (f + 1) 0 ∧ y.2.1 20 = upd (x.2.1 20) (f + 1) (nI t) ∧ y.2.1 21 = upd (x.2.1 21) (f + 1) 0 ∧ (∀ k, k ≠ 18 → y.2.2 k = x.2.2 k) ∧ ∀ j, j < 16 * (f + 1) → y.2.2 18 j = x.2.2 18 j
theorem MI_call {E : Ev} {x y : RS} {f mk k i t : Nat} {q w z : PL} (hE : EO E) (hc : CK E.1 x) (hl : LW E x f mk) (hL : LB E x f mk k i) (hV : MV x f mk q) (ht : t < k) (hR : eR E t) (hp : p_pops (pM E.1 t) q = some w) (hz : p_push w 1 = some z) (hF : FT E k (nI (i + 1)) z) (hy : cl_ x y f t q.2 (pM E.1 t)) : MI E y (f + 1) mk := by
  obtain ⟨y1, y2, y3, y4, y5, y6, y7⟩ := hy
  obtain ⟨c1, rfl⟩ := p_popsE hp
  obtain ⟨v1, v2, v3, v4, v5, v6⟩ := hV
  obtain ⟨l1, l2, l3, l4, l5, l6, l7⟩ := hL
  obtain ⟨-, -, ty, -⟩ := hE t hR
  obtain ⟨t1, t2, t3, t4, -⟩ := ty
  have e24 : y.2.1 24 = x.2.1 24 := y2 24 (by decide) (by decide) (by decide)
  have e25 : y.2.1 25 = x.2.1 25 := y2 25 (by decide) (by decide) (by decide)
  have e23 : y.1 23 = x.1 23 := by rw [y1, upd_oth (by decide)]
  have hTH : TH y mk := by
    unfold TH at v5 ⊢
    rw [e23, e24, e25, y6 27 (by decide)]
    exact v5
  refine ⟨⟨fun k hk => (y2 k (by omega) (by omega) (by omega)).trans (hc.1 k hk), fun k hk => by rw [y1, upd_oth (by omega)]; exact hc.2.1 k hk, by rw [y6 4 (by decide)]; exact hc.2.2⟩, fun l hl1 => ?_, t, 0, ⟨by rw [y4, upd_same], by rw [y5, upd_same]; rfl, hR, t1, t2, by omega, fun p hp => by rw [t4 p hp]; trivial⟩, ⟨by rw [y1, upd_same], by omega, by rw [y3, upd_same, t3]; rfl, by rw [t3]; exact Nat.zero_le _, hTH, fun p hp => ?_⟩⟩
  · by_cases w : l = f
    · subst w
      refine ⟨k, i, ⟨by rw [y4, upd_oth (by omega)]; exact l1, by rw [y5, upd_oth (by omega)]; exact l2, l3, l4, l5, l6, fun p hp => ?_⟩, ⟨_, z, by rw [y3, upd_oth (by omega), upd_same], by show q.2 - _ ≤ 8; omega, fun p hp => ?_, hz, hF⟩⟩
      · rw [y7 _ (by omega), e24]; exact l7 p hp
      · have hp : p < 8 + (q.2 - pM E.1 t) := hp
        rw [y7 _ (by omega), e24]; exact v6 p (by omega)
    · refine LW_lw (b := mk) hl ⟨fun j hj => ⟨by rw [y3, upd_oth (by omega), upd_oth (by omega)], by rw [y4, upd_oth (by omega)], by rw [y5, upd_oth (by omega)]⟩, fun j hj => y7 j (by omega), ⟨Nat.le_refl _, fun t _ => by rw [e24]⟩⟩ l (by omega)
  · have hp : p < 8 + eD E t 0 := hp
    rw [t3] at hp
    show VT mk _ (vc (eT E t 0 p)) _
    rw [t4 p (by omega)]
    trivial
theorem mvTopA {x : RS} {f mk : Nat} {q : PL} {w : Int64} (h : MV x f mk q) (h1 : 1 ≤ q.2) (e : w = x.2.2 18 (16 * f + 7 + q.2)) : VT mk (x.2.1 24) (vc (q.1 (7 + q.2))) w := by
  have := mvTop h h1
  rw [e, show 16 * f + 7 + q.2 = 16 * f + 8 + (q.2 - 1) by omega]
  exact this
theorem mv28 {x : RS} {f mk : Nat} {q : PL} {w w2 : Int64} (h : MV x f mk q) (h2 : 2 ≤ q.2) (e : w = x.2.2 18 (16 * f + 7 + q.2)) (e2 : w2 = x.2.2 18 (16 * f + 7 + q.2 - 1)) : MV (sJ (sJ x 18 (16 * f + 7 + q.2) w2) 18 (16 * f + 7 + q.2 - 1) w) f mk (upd (upd q.1 (7 + q.2) (q.1 (6 + q.2))) (6 + q.2) (q.1 (7 + q.2)), q.2) ∧ mr x (sJ (sJ x 18 (16 * f + 7 + q.2) w2) 18 (16 * f + 7 + q.2 - 1) w) f ∧ mo x (sJ (sJ x 18 (16 * f + 7 + q.2) w2) 18 (16 * f + 7 + q.2 - 1) w) mk mk := by
  have h8 := h.2.2.2.1
  have a1 := mvTopA h (by omega) e
  have a2 : VT mk (x.2.1 24) (vc (q.1 (6 + q.2))) w2 := by
    rw [e2, show 16 * f + 7 + q.2 - 1 = 16 * f + (6 + q.2) by omega]
    exact h.2.2.2.2.2 (6 + q.2) (by omega)
  obtain ⟨b1, b2, b3⟩ := mvSet (q := q.1) (d := q.2) (a := 7 + q.2) (v := w2) (q' := upd q.1 (7 + q.2) (q.1 (6 + q.2))) h (by omega) (fun p _ hne => by rw [upd_oth hne]; exact vle_rf _) (by rw [upd_same]; exact a2)
  obtain ⟨d1, d2, d3⟩ := mvSet (a := 6 + q.2) (v := w) (q' := upd (upd q.1 (7 + q.2) (q.1 (6 + q.2))) (6 + q.2) (q.1 (7 + q.2))) b1 (by omega) (fun p _ hne => by rw [upd_oth hne]; exact vle_rf _) (by rw [upd_same]; exact a1)
  rw [show 16 * f + (7 + q.2) = 16 * f + 7 + q.2 by omega, show 16 * f + (6 + q.2) = 16 * f + 7 + q.2 - 1 by omega] at d1 d2 d3
  rw [show 16 * f + (7 + q.2) = 16 * f + 7 + q.2 by omega] at b2 b3
  exact ⟨d1, b2.tr d2, b3.tr d3⟩
