/-! CLASS AND REFERENCE TIED: the METHODS themselves -/
def X2 (c : CS) (x : RS) : Prop := ∀ m, m < cN c → c.1 (m + 2) 0 1 = x.2.1 1 m ∧ (∀ j, j < oM x m → c.2.1 (m + 2) 1 j = x.2.1 3 (40 * m + j) ∧ c.2.2.1 (m + 2) 2 j = x.2.2 4 (40 * m + j)) ∧ ∀ g, g < hN x m → c.2.1 (m + 2) 3 g = x.2.1 6 (4 * (6 * m + g)) ∧ c.2.1 (m + 2) 4 g = x.2.1 6 (4 * (6 * m + g) + 1) ∧ c.2.1 (m + 2) 5 g = x.2.1 6 (4 * (6 * m + g) + 2)
theorem X2.eq {c c1 : CS} {x y : RS} (h : X2 c x) (en : cN c1 = cN c) (h0 : ∀ m, c1.1 (m + 2) 0 1 = c.1 (m + 2) 0 1) (h1 : ∀ m b, b < 8 → c1.2.1 (m + 2) b = c.2.1 (m + 2) b) (h2 : ∀ m b, c1.2.2.1 (m + 2) b = c.2.2.1 (m + 2) b) (e1 : y.2.1 1 = x.2.1 1) (e2 : y.2.1 2 = x.2.1 2) (e3 : y.2.1 3 = x.2.1 3) (e5 : y.2.1 5 = x.2.1 5) (e6 : y.2.1 6 = x.2.1 6) (e4 : y.2.2 4 = x.2.2 4) : X2 c1 y := by
  intro m hm
  have eo : oM y m = oM x m := by unfold oM; rw [e2]
  have eh : hN y m = hN x m := by unfold hN; rw [e5]
  rw [eo, eh, h0, h1 m 1 (by decide), h1 m 3 (by decide), h1 m 4 (by decide), h1 m 5 (by decide), h2, e1, e3, e4, e6]
  exact h m (by rw [← en]; exact hm)
theorem X2.keep {c c1 : CS} {x y : RS} (h : X2 c x) (k : kp0 c c1) (e : ∀ j, j < 9 → y.2.1 j = x.2.1 j) (e4 : y.2.2 4 = x.2.2 4) : X2 c1 y :=
  h.eq k.1 (fun m => (k.2.2 (m + 2) 0 (by omega)).2.2 1 (by omega)) (fun m b _ => (k.2.2 (m + 2) b (by omega)).1) (fun m b => (k.2.2 (m + 2) b (by omega)).2.1) (e 1 (by decide)) (e 2 (by decide)) (e 3 (by decide)) (e 5 (by decide)) (e 6 (by decide)) e4
theorem X2_add {c : CS} {x : RS} {a : Int32} {n : Nat} (h : X2 c x) (en : cN c = n) (hn8 : n < 8) (h2 : x.2.1 2 n = 0) (h5 : x.2.1 5 n = 0) : X2 (addC c a) (sS (sAs (sA x 1 n a) 7 (fmA (x.2.1 7) (40 * n) (-1) 40)) 0 (nI (n + 1))) := by
  generalize hy : sS (sAs (sA x 1 n a) 7 (fmA (x.2.1 7) (40 * n) (-1) 40)) 0 (nI (n + 1)) = y
  have y1 : y.2.1 1 = upd (x.2.1 1) n a := by rw [← hy]; exact (sAs_o (by decide)).trans (sA_k x 1 n a)
  have yO : ∀ j, j ≠ 1 → j ≠ 7 → y.2.1 j = x.2.1 j := fun j a b => by rw [← hy]; exact (sAs_o b).trans (sA_o a)
  have y4 : y.2.2 = x.2.2 := by rw [← hy]; rfl
  have cl0 : (0 : Int32).toNatClampNeg = 0 := by decide
  intro m hm
  have hm : m < cN c + 1 := hm
  have eo : oM y m = oM x m := by unfold oM; rw [yO 2 (by decide) (by decide)]
  have eh : hN y m = hN x m := by unfold hN; rw [yO 5 (by decide) (by decide)]
  rw [eo, eh, yO 3 (by decide) (by decide), yO 6 (by decide) (by decide), y1, y4]
  by_cases w : m = n
  · have o0 : oM x m = 0 := by unfold oM; rw [w, h2]; exact cl0
    have n0 : hN x m = 0 := by unfold hN; rw [w, h5]; exact cl0
    refine ⟨?_, fun j hj => by omega, fun g hg => by omega⟩
    rw [w, upd_same]
    simp [addC, en]
  · have a1 : ∀ b, (addC c a).1 (m + 2) b = c.1 (m + 2) b := fun b => by
      show (if m + 2 = cN c + 2 then _ else _) = _
      rw [if_neg (by omega)]
    have a2 : ∀ b, (addC c a).2.1 (m + 2) b = c.2.1 (m + 2) b := fun b => by
      show (if m + 2 = cN c + 2 then _ else _) = _
      rw [if_neg (by omega)]
    have a3 : ∀ b, (addC c a).2.2.1 (m + 2) b = c.2.2.1 (m + 2) b := fun b => by
      show (if m + 2 = cN c + 2 then _ else _) = _
      rw [if_neg (by omega)]
    rw [a1, a2, a2, a2, a2, a3, upd_oth w]
    exact h m (by omega)
theorem X2_op {c : CS} {x : RS} {b : Int32} {v : Int64} {cm k : Nat} (h : X2 c x) (ho : ∀ m, m < cN c → oM x m ≤ 40) (hk : oM x cm = k) (hk40 : k < 40) : X2 (opC c cm k b v) (sA (sA (sJ (sA x 3 (40 * cm + k) b) 4 (40 * cm + k) v) 2 cm (nI (k + 1))) 9 cm 0) := by
  generalize hy : sA (sA (sJ (sA x 3 (40 * cm + k) b) 4 (40 * cm + k) v) 2 cm (nI (k + 1))) 9 cm 0 = y
  have y2 : y.2.1 2 = upd (x.2.1 2) cm (nI (k + 1)) := by rw [← hy, sA_o (j := 2) (k := 9) (by decide), sA_k]; exact congrArg (fun g => upd g cm (nI (k + 1))) (sA_o (x := x) (k := 3) (j := 2) (f := 40 * cm + k) (v := b) (by decide))
  have y3 : y.2.1 3 = upd (x.2.1 3) (40 * cm + k) b := by rw [← hy, sA_o (j := 3) (k := 9) (by decide), sA_o (j := 3) (k := 2) (by decide)]; exact sA_k x 3 _ b
  have yO : ∀ j, j ≠ 2 → j ≠ 3 → j ≠ 9 → y.2.1 j = x.2.1 j := fun j a b c => by rw [← hy, sA_o c, sA_o a]; exact sA_o b
  have y4 : y.2.2 4 = vp_updL (x.2.2 4) (40 * cm + k) v := by rw [← hy]; exact sJ_k (sA x 3 (40 * cm + k) b) 4 _ v
  intro m hm
  have hm : m < cN c := hm
  obtain ⟨p1, p2, p3⟩ := h m hm
  have r0 : (opC c cm k b v).1 (m + 2) 0 1 = c.1 (m + 2) 0 1 := by
    show (tS (tS (tJ (tV c (cm + 2) 1 k b) (cm + 2) 2 k v) (cm + 2) 0 11 0) (cm + 2) 0 4 (nI (k + 1))).1 (m + 2) 0 1 = _
    rw [tS_rd (by omega), tS_rd (by omega)]
    rfl
  have r1 : ∀ w, ¬ (m = cm ∧ w = 1) → (opC c cm k b v).2.1 (m + 2) w = c.2.1 (m + 2) w := fun w z => up3_ne (by omega)
  have eh : hN y m = hN x m := by unfold hN; rw [yO 5 (by decide) (by decide) (by decide)]
  rw [r0, eh, yO 1 (by decide) (by decide) (by decide), yO 6 (by decide) (by decide) (by decide), r1 3 (by omega), r1 4 (by omega), r1 5 (by omega)]
  refine ⟨p1, fun j hj => ?_, p3⟩
  by_cases w : m = cm
  · subst w
    have eo : oM y m = k + 1 := by unfold oM; rw [y2, upd_same]; exact nI_clamp (by omega)
    rw [eo] at hj
    have s1 : (opC c m k b v).2.1 (m + 2) 1 = upd (c.2.1 (m + 2) 1) k b := up3_self
    have s2 : (opC c m k b v).2.2.1 (m + 2) 2 = vp_updL (c.2.2.1 (m + 2) 2) k v := up3_self
    rw [s1, s2, y3, y4]
    by_cases e : j = k
    · rw [e, upd_same, upd_same]
      exact ⟨rfl, by simp [vp_updL]⟩
    · rw [upd_oth e, upd_oth (by omega), updL_o e, updL_o (by omega)]
      exact p2 j (by omega)
  · have eo : oM y m = oM x m := by unfold oM; rw [y2, upd_oth w]
    rw [eo] at hj
    have s2 : (opC c cm k b v).2.2.1 (m + 2) 2 = c.2.2.1 (m + 2) 2 := up3_ne (by omega)
    have h40 := ho m hm
    rw [r1 1 (by omega), s2, y3, y4, upd_oth (by omega), updL_o (by omega)]
    exact p2 j hj
theorem X2_hd {c : CS} {x : RS} {b d f g9 : Int32} {cm k : Nat} (h : X2 c x) (ho : ∀ m, m < cN c → hN x m ≤ 6) (hk : hN x cm = k) (hk6 : k < 6) : X2 (hdC c cm k b d f g9) (sA (sA (r_hand4 x cm k b d f g9) 5 cm (nI (k + 1))) 9 cm 0) := by
  generalize hy : sA (sA (r_hand4 x cm k b d f g9) 5 cm (nI (k + 1))) 9 cm 0 = y
  have r6 : (r_hand4 x cm k b d f g9).2.1 6 = upd (upd (upd (upd (x.2.1 6) (4 * (6 * cm + k)) b) (4 * (6 * cm + k) + 1) d) (4 * (6 * cm + k) + 2) f) (4 * (6 * cm + k) + 3) g9 := by
    unfold r_hand4
    rw [sA_k, sA_k, sA_k, sA_k]
  have rO : ∀ j, j ≠ 6 → (r_hand4 x cm k b d f g9).2.1 j = x.2.1 j := by
    intro j hj
    unfold r_hand4
    rw [sA_o hj, sA_o hj, sA_o hj, sA_o hj]
  have y5 : y.2.1 5 = upd (x.2.1 5) cm (nI (k + 1)) := by rw [← hy, sA_o (j := 5) (k := 9) (by decide), sA_k, rO 5 (by decide)]
  have y6 : y.2.1 6 = upd (upd (upd (upd (x.2.1 6) (4 * (6 * cm + k)) b) (4 * (6 * cm + k) + 1) d) (4 * (6 * cm + k) + 2) f) (4 * (6 * cm + k) + 3) g9 := by rw [← hy, sA_o (j := 6) (k := 9) (by decide), sA_o (j := 6) (k := 5) (by decide), r6]
  have yO : ∀ j, j ≠ 5 → j ≠ 6 → j ≠ 9 → y.2.1 j = x.2.1 j := fun j a b c => by rw [← hy, sA_o c, sA_o a, rO j b]
  have y4 : y.2.2 = x.2.2 := by rw [← hy]; rfl
  have off : ∀ i, (i < 4 * (6 * cm + k) ∨ 4 * (6 * cm + k) + 4 ≤ i) → y.2.1 6 i = x.2.1 6 i := by
    intro i hi
    rw [y6, upd_oth (by omega), upd_oth (by omega), upd_oth (by omega), upd_oth (by omega)]
  intro m hm
  have hm : m < cN c := hm
  obtain ⟨p1, p2, p3⟩ := h m hm
  have r0 : (hdC c cm k b d f g9).1 (m + 2) 0 1 = c.1 (m + 2) 0 1 := by
    show (tS (tS (tV (tV (tV (tV c (cm + 2) 3 k b) (cm + 2) 4 k d) (cm + 2) 5 k f) (cm + 2) 6 k g9) (cm + 2) 0 11 0) (cm + 2) 0 9 (nI (k + 1))).1 (m + 2) 0 1 = _
    rw [tS_rd (by omega), tS_rd (by omega)]
    rfl
  have rv : ∀ w j, (hdC c cm k b d f g9).2.1 (m + 2) w j = if m = cm ∧ j = k ∧ w = 3 then b else if m = cm ∧ j = k ∧ w = 4 then d else if m = cm ∧ j = k ∧ w = 5 then f else if m = cm ∧ j = k ∧ w = 6 then g9 else c.2.1 (m + 2) w j := by
    intro w j
    have st : ∀ (c : CS) (w0 : Nat) (v : Int32), (tV c (cm + 2) w0 k v).2.1 (m + 2) w j = if m = cm ∧ j = k ∧ w = w0 then v else c.2.1 (m + 2) w j := by
      intro c w0 v
      show up3 c.2.1 (cm + 2) w0 (upd (c.2.1 (cm + 2) w0) k v) (m + 2) w j = _
      by_cases z : m + 2 = cm + 2 ∧ w = w0
      · obtain ⟨z1, z2⟩ := z
        have z1 : m = cm := by omega
        subst z1
        subst z2
        rw [up3_self]
        by_cases e : j = k
        · rw [e, upd_same, if_pos ⟨rfl, rfl, rfl⟩]
        · rw [upd_oth e, if_neg (fun q => e q.2.1)]
      · rw [up3_ne z, if_neg (fun q => z ⟨by omega, q.2.2⟩)]
    show (tV (tV (tV (tV c (cm + 2) 3 k b) (cm + 2) 4 k d) (cm + 2) 5 k f) (cm + 2) 6 k g9).2.1 (m + 2) w j = _
    rw [st, st, st, st]
    by_cases z : m = cm ∧ j = k
    · obtain ⟨z1, z2⟩ := z
      by_cases w3 : w = 3
      · rw [if_neg (by omega), if_neg (by omega), if_neg (by omega), if_pos ⟨z1, z2, w3⟩, if_pos ⟨z1, z2, w3⟩]
      · by_cases w4 : w = 4
        · rw [if_neg (by omega), if_neg (by omega), if_pos ⟨z1, z2, w4⟩, if_neg (by omega), if_pos ⟨z1, z2, w4⟩]
        · by_cases w5 : w = 5
          · rw [if_neg (by omega), if_pos ⟨z1, z2, w5⟩, if_neg (by omega), if_neg (by omega), if_pos ⟨z1, z2, w5⟩]
          · by_cases w6 : w = 6
            · rw [if_pos ⟨z1, z2, w6⟩, if_neg (by omega), if_neg (by omega), if_neg (by omega), if_pos ⟨z1, z2, w6⟩]
            · rw [if_neg (by omega), if_neg (by omega), if_neg (by omega), if_neg (by omega), if_neg (by omega), if_neg (by omega), if_neg (by omega), if_neg (by omega)]
    · rw [if_neg (fun q => z ⟨q.1, q.2.1⟩), if_neg (fun q => z ⟨q.1, q.2.1⟩), if_neg (fun q => z ⟨q.1, q.2.1⟩), if_neg (fun q => z ⟨q.1, q.2.1⟩), if_neg (fun q => z ⟨q.1, q.2.1⟩), if_neg (fun q => z ⟨q.1, q.2.1⟩), if_neg (fun q => z ⟨q.1, q.2.1⟩), if_neg (fun q => z ⟨q.1, q.2.1⟩)]
  have eo : oM y m = oM x m := by unfold oM; rw [yO 2 (by decide) (by decide) (by decide)]
  rw [r0, eo, yO 1 (by decide) (by decide) (by decide), yO 3 (by decide) (by decide) (by decide), y4]
  refine ⟨p1, fun j hj => ⟨?_, (p2 j hj).2⟩, fun g hg => ?_⟩
  · rw [rv, if_neg (by omega), if_neg (by omega), if_neg (by omega), if_neg (by omega)]
    exact (p2 j hj).1
  · have h6 := ho m hm
    rw [rv, rv, rv]
    by_cases w : m = cm ∧ g = k
    · obtain ⟨w1, w2⟩ := w
      subst w1
      subst w2
      rw [if_pos ⟨rfl, rfl, rfl⟩, if_neg (by omega), if_pos ⟨rfl, rfl, rfl⟩, if_neg (by omega), if_neg (by omega), if_pos ⟨rfl, rfl, rfl⟩, y6]
      refine ⟨?_, ?_, ?_⟩
      · rw [upd_oth (by omega), upd_oth (by omega), upd_oth (by omega), upd_same]
      · rw [upd_oth (by omega), upd_oth (by omega), upd_same]
      · rw [upd_oth (by omega), upd_same]
    · have hg2 : g < hN x m := by
        by_cases w1 : m = cm
        · have e9 : hN y m = k + 1 := by unfold hN; rw [y5, w1, upd_same]; exact nI_clamp (by omega)
          rw [e9] at hg
          have : g ≠ k := fun e => w ⟨w1, e⟩
          rw [w1, hk]
          omega
        · have e9 : hN y m = hN x m := by unfold hN; rw [y5, upd_oth w1]
          rw [← e9]; exact hg
      rw [if_neg (fun q => w ⟨q.1, q.2.1⟩), if_neg (fun q => w ⟨q.1, q.2.1⟩), if_neg (fun q => w ⟨q.1, q.2.1⟩), if_neg (fun q => w ⟨q.1, q.2.1⟩), if_neg (fun q => w ⟨q.1, q.2.1⟩), if_neg (fun q => w ⟨q.1, q.2.1⟩), if_neg (fun q => w ⟨q.1, q.2.1⟩), if_neg (fun q => w ⟨q.1, q.2.1⟩), if_neg (fun q => w ⟨q.1, q.2.1⟩), if_neg (fun q => w ⟨q.1, q.2.1⟩), if_neg (fun q => w ⟨q.1, q.2.1⟩), if_neg (fun q => w ⟨q.1, q.2.1⟩)]
      have hd9 : 4 * (6 * m + g) + 4 ≤ 4 * (6 * cm + k) ∨ 4 * (6 * cm + k) + 4 ≤ 4 * (6 * m + g) := by
        by_cases w1 : m = cm
        · subst w1
          have : g ≠ k := fun e => w ⟨rfl, e⟩
          omega
        · omega
      rw [off _ (by omega), off _ (by omega), off _ (by omega)]
      exact p3 g hg2
/-- the METHOD as joining reads it -/
theorem PT_of {c : CS} {x : RS} {cm : Nat} (hI : CInv c) (hR : RInv x) (hTi : Tie c x) (hX : X2 c x) (hm : cm < cN c) : PT c x cm (oM x cm) (hN x cm) (hF x cm) (hT x cm) (hA x cm) (pM x) := by
  obtain ⟨n, h8, hnn, h3, h4, h5⟩ := id hR
  have en := hTi.n hI hnn h8
  obtain ⟨q1, q2, q3, q4, q5, q6, q7⟩ := h3 cm (by omega)
  obtain ⟨p1, p2, p3⟩ := hX cm hm
  refine ⟨(hTi.2.1 cm hm).1.trans q1, q2, (hTi.2.1 cm hm).2.1.trans q3, q4, fun t ht => ⟨(hX t ht).1.trans (q6 t (by omega)).1, (q6 t (by omega)).2⟩, p2, fun g hg => ?_⟩
  obtain ⟨a1, a2, a3, a4, a5, a6, a7, a8⟩ := q5 g hg
  obtain ⟨b1, b2, b3⟩ := p3 g hg
  exact ⟨b1.trans a1, b2.trans a2, b3.trans a3, a5, a6, a7⟩
theorem X2_fr {c : CS} {x : RS} {cm kn : Nat} {d : Int32} {g : Nat → Int32} (h : X2 c x) : X2 (frC c cm kn d g) (sA (sAs (sA x 7 (40 * cm + kn) d) 8 (fmA (x.2.1 8) (16 * (40 * cm + kn)) 0 16)) 9 cm 0) := by
  have yO : ∀ j, j ≠ 7 → j ≠ 8 → j ≠ 9 → (sA (sAs (sA x 7 (40 * cm + kn) d) 8 (fmA (x.2.1 8) (16 * (40 * cm + kn)) 0 16)) 9 cm 0).2.1 j = x.2.1 j := fun j a b c => by rw [sA_o c, sAs_o b, sA_o a]
  refine h.eq rfl (fun m => ?_) (fun m b hb => ?_) (fun _ _ => rfl) (yO 1 (by decide) (by decide) (by decide)) (yO 2 (by decide) (by decide) (by decide)) (yO 3 (by decide) (by decide) (by decide)) (yO 5 (by decide) (by decide) (by decide)) (yO 6 (by decide) (by decide) (by decide)) rfl
  · show up3 (up3 c.1 (cm + 2) (2 * kn + 8) _) (cm + 2) 0 (upd (c.1 (cm + 2) 0) 11 0) (m + 2) 0 1 = _
    by_cases w : m = cm
    · rw [w, up3_self, upd_oth (by decide)]
    · rw [up3_ne (by omega), up3_ne (by omega)]
  · show up3 c.2.1 (cm + 2) (2 * kn + 9) g (m + 2) b = _
    rw [up3_ne (by omega)]
theorem X2_set {c : CS} {x : RS} {cm kn pn dn : Nat} {f : Int32} {h9 : Nat → Int32} (h : X2 c x) : X2 (sP (tS c (cm + 2) 0 11 0) (cm + 2) (2 * kn + 8) (h9, dn)) (sA (sA x 8 (16 * (40 * cm + kn) + pn) f) 9 cm 0) := by
  have yO : ∀ j, j ≠ 8 → j ≠ 9 → (sA (sA x 8 (16 * (40 * cm + kn) + pn) f) 9 cm 0).2.1 j = x.2.1 j := fun j a b => by rw [sA_o b, sA_o a]
  refine h.eq rfl (fun m => ?_) (fun m b hb => ?_) (fun _ _ => rfl) (yO 1 (by decide) (by decide)) (yO 2 (by decide) (by decide)) (yO 3 (by decide) (by decide)) (yO 5 (by decide) (by decide)) (yO 6 (by decide) (by decide)) rfl
  · rw [sP_rdS (by omega), tS_rd (by omega)]
  · show up3 c.2.1 (cm + 2) (2 * kn + 8 + 1) h9 (m + 2) b = _
    rw [up3_ne (by omega)]
def Tie2 (c : CS) (x : RS) : Prop := Tie c x ∧ X2 c x
/-- and the rounds alike -/
def Tie3 (c : CS) (x : RS) : Prop := Tie2 c x ∧ c.1 0 3 5 = x.1 13
theorem add_35 {c : CS} {a : Int32} : (addC c a).1 0 3 5 = c.1 0 3 5 := by
  show (if 0 = cN c + 2 then (fun k => if k = 1 then a else 0) else c.1 0 3) 5 = _
  rw [if_neg (by omega)]
theorem op_35 {c : CS} {b : Int32} {v : Int64} {cm k : Nat} : (opC c cm k b v).1 0 3 5 = c.1 0 3 5 := by
  show (tS (tS (tJ (tV c (cm + 2) 1 k b) (cm + 2) 2 k v) (cm + 2) 0 11 0) (cm + 2) 0 4 (nI (k + 1))).1 0 3 5 = _
  rw [tS_rd (by omega), tS_rd (by omega)]
  rfl
theorem hd_35 {c : CS} {b d f g9 : Int32} {cm k : Nat} : (hdC c cm k b d f g9).1 0 3 5 = c.1 0 3 5 := by
  show (tS (tS (tV (tV (tV (tV c (cm + 2) 3 k b) (cm + 2) 4 k d) (cm + 2) 5 k f) (cm + 2) 6 k g9) (cm + 2) 0 11 0) (cm + 2) 0 9 (nI (k + 1))).1 0 3 5 = _
  rw [tS_rd (by omega), tS_rd (by omega)]
  rfl
theorem fr_35 {c : CS} {cm kn : Nat} {d : Int32} {g : Nat → Int32} : (frC c cm kn d g).1 0 3 5 = c.1 0 3 5 := by
  show up3 (up3 c.1 (cm + 2) (2 * kn + 8) (upd (c.1 (cm + 2) (2 * kn + 8)) 1 d)) (cm + 2) 0 (upd (c.1 (cm + 2) 0) 11 0) 0 3 5 = _
  rw [up3_ne (by omega), up3_ne (by omega)]
theorem set_35 {c : CS} {cm kn dn : Nat} {h9 : Nat → Int32} : (sP (tS c (cm + 2) 0 11 0) (cm + 2) (2 * kn + 8) (h9, dn)).1 0 3 5 = c.1 0 3 5 := by
  rw [sP_rdS (by omega), tS_rd (by omega)]
theorem sS_13 {x : RS} {v : Int32} : (sS x 0 v).1 13 = x.1 13 := by
  show upd x.1 0 v 13 = _
  rw [upd_oth (by decide)]
section TW
variable {Γ : mG} {L L1 : mI → Nat} {M1 : mM} {c : CS} {x : RS} {n : Nat} {r : Int32}
set_option maxHeartbeats 1000000 in
theorem tw_method {a : Int32} (hI : CInv c) (hTi : Tie3 c x) (hn : x.1 0 = nI n) (h8 : n ≤ 8) (h : (r = -1 ∧ (a < 0 ∨ ¬ a ≤ 4) ∧ L1 = L ∧ M1 = cM Γ L c) ∨ ((¬ a < 0 ∧ a ≤ 4) ∧ ((cN c = 8 ∧ r = -3 ∧ L1 = L ∧ M1 = cM Γ L c) ∨ (cN c < 8 ∧ r = nI (cN c) ∧ (∀ u w, u ≠ cN c + 2 → L1 (nm u w) = L (nm u w)) ∧ M1 = cM Γ L1 (addC c a))))) : ∃ c1, M1 = cM Γ L1 c1 ∧ CInv c1 ∧ L1 (nm 0 0) = L (nm 0 0) ∧ Tie3 c1 (r_method x n a).2 ∧ r = (r_method x n a).1 := by
  obtain ⟨⟨hT, hX⟩, h13⟩ := hTi
  have en := hT.n hI hn h8
  have z0 : (0 : Int32).toInt = 0 := by decide
  have z4 : (4 : Int32).toInt = 4 := by decide
  have y0 : (0 : Int64).toInt = 0 := by decide
  have y4 : (4 : Int64).toInt = 4 := by decide
  unfold r_method
  rcases h with ⟨e, b, rfl, rfl⟩ | ⟨⟨a1, a2⟩, h⟩
  · have c1 : ¬ r_isIn a.toInt64 0 4 = true := by
      rw [in_iff, y0, y4]
      rcases b with b | b
      · have := Int32.lt_iff_toInt_lt.mp b
        omega
      · have := Int32.lt_iff_toInt_lt.mp (Int32.not_le.mp b)
        omega
    rw [if_neg c1]
    exact ⟨c, rfl, hI, rfl, ⟨⟨hT, hX⟩, h13⟩, e⟩
  · have b1 := Int32.le_iff_toInt_le.mp (Int32.not_lt.mp a1)
    have b2 := Int32.le_iff_toInt_le.mp a2
    have c1 : r_isIn a.toInt64 0 4 = true := by
      rw [in_iff, y0, y4]
      omega
    rw [if_pos c1]
    rcases h with ⟨g, e, rfl, rfl⟩ | ⟨g, e, hL, rfl⟩
    · rw [if_pos (by omega)]
      exact ⟨c, rfl, hI, rfl, ⟨⟨hT, hX⟩, h13⟩, e⟩
    · rw [if_neg (by omega)]
      obtain ⟨ea, -⟩ := nat_of_toInt (a := a) (by omega)
      refine ⟨_, rfl, addC_inv (k := a.toInt.toNat) hI g ea (by omega), hL 0 0 (by omega), ⟨⟨?_, X2_add hX en (by omega) (hT.2.2 n (by omega) (by omega)).1 (hT.2.2 n (by omega) (by omega)).2⟩, add_35.trans (h13.trans sS_13.symm)⟩, by rw [← en]; exact e⟩
      show Tie (addC c a) (sS (sAs (sA x 1 n a) 7 (fmA (x.2.1 7) (40 * n) (-1) 40)) 0 (nI (n + 1)))
      obtain ⟨h1, h2, h3⟩ := hT
      generalize hy : sS (sAs (sA x 1 n a) 7 (fmA (x.2.1 7) (40 * n) (-1) 40)) 0 (nI (n + 1)) = y
      have y0 : y.1 0 = nI (n + 1) := by rw [← hy]; exact sS_k _ _ _
      have y7 : y.2.1 7 = fmA (x.2.1 7) (40 * n) (-1) 40 := by rw [← hy]; exact sAs_k _ _ _
      have yO : ∀ j, j ≠ 1 → j ≠ 7 → y.2.1 j = x.2.1 j := fun j a b => by rw [← hy]; exact (sAs_o b).trans (sA_o a)
      rw [en] at h2 h3
      refine ⟨?_, fun m hm => ?_, fun m hm hm8 => ?_⟩
      · rw [y0]
        show nI (n + 1) = nI (cN c + 1)
        rw [en]
      · have hm : m < cN c + 1 := hm
        rw [yO 2 (by decide) (by decide), yO 5 (by decide) (by decide), yO 8 (by decide) (by decide), y7]
        by_cases w : m = n
        · subst w
          have a1 : ∀ b k, k ≠ 1 → (addC c a).1 (m + 2) b k = 0 := fun b k hk => by simp [addC, en, hk]
          have a2 : ∀ i, cF (addC c a) m i = false := fun i => by
            show (if m = cN c then _ else _) = _
            rw [if_pos en.symm]
          obtain ⟨z1, z2⟩ := h3 m (by omega) (by omega)
          refine ⟨by rw [a1 0 4 (by decide), z1], by rw [a1 0 9 (by decide), z2], fun i hi => ⟨fun f => ?_, fun _ => ?_⟩⟩
          · rw [a2] at f; cases f
          · rw [fmA_at, if_pos (by omega)]
        · have a1 : ∀ b, (addC c a).1 (m + 2) b = c.1 (m + 2) b := fun b => by
            show (if m + 2 = cN c + 2 then _ else _) = _
            rw [if_neg (by omega)]
          have a3 : ∀ b, (addC c a).2.1 (m + 2) b = c.2.1 (m + 2) b := fun b => by
            show (if m + 2 = cN c + 2 then _ else _) = _
            rw [if_neg (by omega)]
          have a2 : ∀ i, cF (addC c a) m i = cF c m i := fun i => by
            show (if m = cN c then _ else _) = _
            rw [if_neg (by omega)]
          obtain ⟨q1, q2, q3⟩ := h2 m (by omega)
          refine ⟨by rw [a1]; exact q1, by rw [a1]; exact q2, fun i hi => ?_⟩
          rw [a1, a2, a3, fmA_at, if_neg (by omega)]
          exact q3 i hi
      · have hm : cN c + 1 ≤ m := hm
        rw [yO 2 (by decide) (by decide), yO 5 (by decide) (by decide)]
        exact h3 m (by omega) hm8
set_option maxHeartbeats 1000000 in
theorem tw_op {a b : Int32} {v : Int64} (hI : CInv c) (hTi : Tie3 c x) (hRI : RInv x) (hn : x.1 0 = nI n) (h8 : n ≤ 8) (h : L1 = L ∧ ((r = -1 ∧ ¬ (0 ≤ a.toInt ∧ a.toInt < cN c) ∧ M1 = cM Γ L c) ∨ ∃ cm, cm < cN c ∧ a = nI cm ∧ ∃ k, k ≤ 40 ∧ c.1 (cm + 2) 0 4 = nI k ∧ ((k = 40 ∧ r = -3 ∧ M1 = cM Γ L c) ∨ (k < 40 ∧ r = nI k ∧ M1 = cM Γ L (opC c cm k b v))))) : ∃ c1, M1 = cM Γ L1 c1 ∧ CInv c1 ∧ L1 (nm 0 0) = L (nm 0 0) ∧ Tie3 c1 (r_op x n (oM x) a b v).2 ∧ r = (r_op x n (oM x) a b v).1 := by
  obtain ⟨⟨hT, hX⟩, h13⟩ := hTi
  have en := hT.n hI hn h8
  obtain ⟨rfl, h⟩ := h
  unfold r_op
  rcases h with ⟨e, g, rfl⟩ | ⟨cm, hcm, rfl, k, hk40, ek, h⟩
  · rw [if_neg (by rw [isM_iff, ← en]; exact g)]
    exact ⟨c, rfl, hI, rfl, ⟨⟨hT, hX⟩, h13⟩, e⟩
  · have c1 : r_isM n (nI cm) = true := by rw [isM_iff, nI_toInt (by omega)]; omega
    rw [if_pos c1, nI_clamp (by omega)]
    have h3 : ∀ k, k < 8 → rq x k := by obtain ⟨_, _, _, h3, _⟩ := hRI; exact h3
    have q := h3 cm (by omega)
    have ok : oM x cm = k := by
      have e1 := (hT.2.1 cm hcm).1
      exact nI_inj (by have := q.2.1; omega) (by omega) (q.1.symm.trans (e1.symm.trans ek))
    rw [ok]
    rcases h with ⟨g, e, rfl⟩ | ⟨g, e, rfl⟩
    · rw [if_pos g]
      exact ⟨c, rfl, hI, rfl, ⟨⟨hT, hX⟩, h13⟩, e⟩
    · rw [if_neg (by omega)]
      refine ⟨_, rfl, CInv.size (CInv.right (CInv.putJ (CInv.putV hI (by omega)))) ⟨k + 1, by omega, rfl⟩, rfl, ⟨⟨?_, X2_op hX (fun m hm => (h3 m (by omega)).2.1) ok g⟩, op_35.trans h13⟩, e⟩
      show Tie (opC c cm k b v) (sA (sA (sJ (sA x 3 (40 * cm + k) b) 4 (40 * cm + k) v) 2 cm (nI (k + 1))) 9 cm 0)
      generalize hy : sA (sA (sJ (sA x 3 (40 * cm + k) b) 4 (40 * cm + k) v) 2 cm (nI (k + 1))) 9 cm 0 = y
      have y2 : y.2.1 2 = upd (x.2.1 2) cm (nI (k + 1)) := by rw [← hy, sA_o (j := 2) (k := 9) (by decide), sA_k]; exact congrArg (fun g => upd g cm (nI (k + 1))) (sA_o (x := x) (k := 3) (j := 2) (f := 40 * cm + k) (v := b) (by decide))
      have yO : ∀ j, j ≠ 2 → j ≠ 3 → j ≠ 9 → y.2.1 j = x.2.1 j := fun j a b c => by rw [← hy, sA_o c, sA_o a]; exact sA_o b
      have r1 : ∀ u w j, (opC c cm k b v).1 u w j = if u = cm + 2 ∧ w = 0 then (if j = 4 then nI (k + 1) else if j = 11 then 0 else c.1 u w j) else c.1 u w j := by
        intro u w j
        show up3 (up3 c.1 (cm + 2) 0 (upd (c.1 (cm + 2) 0) 11 0)) (cm + 2) 0 (upd (up3 c.1 (cm + 2) 0 (upd (c.1 (cm + 2) 0) 11 0) (cm + 2) 0) 4 (nI (k + 1))) u w j = _
        by_cases z : u = cm + 2 ∧ w = 0
        · obtain ⟨rfl, rfl⟩ := z
          rw [up3_self, up3_self, if_pos ⟨rfl, rfl⟩]
          rfl
        · rw [up3_ne z, up3_ne z, if_neg z]
      have r2 : ∀ u w, ¬ (u = cm + 2 ∧ w = 1) → (opC c cm k b v).2.1 u w = c.2.1 u w := fun u w z => up3_ne z
      refine hT.chg (k0 := cm) hcm rfl (by rw [← hy]; rfl) (fun m hm => ?_) ?_
      · refine ⟨fun u => ⟨?_, r2 _ _ (by omega)⟩, fun _ => rfl, by rw [y2, upd_oth hm], by rw [yO 5 (by decide) (by decide) (by decide)], fun i _ => ?_⟩
        · funext j; rw [r1, if_neg (by omega)]
        · rw [yO 7 (by decide) (by decide) (by decide), yO 8 (by decide) (by decide) (by decide)]
          exact ⟨rfl, fun _ _ => rfl⟩
      · obtain ⟨q1, q2, q3⟩ := hT.2.1 cm hcm
        refine ⟨by rw [r1, y2, upd_same, if_pos ⟨rfl, rfl⟩]; rfl, by rw [r1, yO 5 (by decide) (by decide) (by decide), if_pos ⟨rfl, rfl⟩]; exact q2, fun i hi => ?_⟩
        rw [yO 7 (by decide) (by decide) (by decide), yO 8 (by decide) (by decide) (by decide), r1, if_neg (by omega), r2 _ _ (by omega)]
        exact q3 i hi
set_option maxHeartbeats 1000000 in
theorem tw_handler {a b d f g : Int32} (hI : CInv c) (hTi : Tie3 c x) (hRI : RInv x) (hn : x.1 0 = nI n) (h8 : n ≤ 8) (h : L1 = L ∧ ((r = -1 ∧ (¬ (0 ≤ a.toInt ∧ a.toInt < cN c) ∨ ¬ hOK b d f g) ∧ M1 = cM Γ L c) ∨ ∃ cm, cm < cN c ∧ a = nI cm ∧ hOK b d f g ∧ ∃ k, k ≤ 6 ∧ c.1 (cm + 2) 0 9 = nI k ∧ ((k = 6 ∧ r = -3 ∧ M1 = cM Γ L c) ∨ (k < 6 ∧ r = nI (k + 1) ∧ M1 = cM Γ L (hdC c cm k b d f g))))) : ∃ c1, M1 = cM Γ L1 c1 ∧ CInv c1 ∧ L1 (nm 0 0) = L (nm 0 0) ∧ Tie3 c1 (r_handler x n (hN x) a b d f g).2 ∧ r = (r_handler x n (hN x) a b d f g).1 := by
  obtain ⟨⟨hT, hX⟩, h13⟩ := hTi
  have en := hT.n hI hn h8
  obtain ⟨rfl, h⟩ := h
  unfold r_handler
  rcases h with ⟨e, g9, rfl⟩ | ⟨cm, hcm, rfl, hok, k, hk40, ek, h⟩
  · rw [if_neg (by
      rw [isM_iff, ← en, ← hOK_iff]
      rintro ⟨u1, u2⟩
      rcases g9 with g9 | g9
      · exact g9 u1
      · exact g9 u2)]
    exact ⟨c, rfl, hI, rfl, ⟨⟨hT, hX⟩, h13⟩, e⟩
  · have c1 : r_isM n (nI cm) = true := by rw [isM_iff, nI_toInt (by omega)]; omega
    rw [if_pos ⟨c1, hOK_iff.mp hok⟩, nI_clamp (by omega)]
    have h3 : ∀ k, k < 8 → rq x k := by obtain ⟨_, _, _, h3, _⟩ := hRI; exact h3
    have q := h3 cm (by omega)
    have ok : hN x cm = k := by
      have e1 := (hT.2.1 cm hcm).2.1
      exact nI_inj (by have := q.2.2.2.1; omega) (by omega) (q.2.2.1.symm.trans (e1.symm.trans ek))
    rw [ok]
    rcases h with ⟨g9, e, rfl⟩ | ⟨g9, e, rfl⟩
    · rw [if_pos g9]
      exact ⟨c, rfl, hI, rfl, ⟨⟨hT, hX⟩, h13⟩, e⟩
    · rw [if_neg (by omega)]
      refine ⟨_, rfl, CInv.hmany (CInv.right (CInv.putV (CInv.putV (CInv.putV (CInv.putV hI (by omega)) (by omega)) (by omega)) (by omega))) ⟨k + 1, by omega, rfl⟩, rfl, ⟨⟨?_, X2_hd hX (fun m hm => (h3 m (by omega)).2.2.2.1) ok g9⟩, hd_35.trans h13⟩, e⟩
      show Tie (hdC c cm k b d f g) (sA (sA (r_hand4 x cm k b d f g) 5 cm (nI (k + 1))) 9 cm 0)
      generalize hy : sA (sA (r_hand4 x cm k b d f g) 5 cm (nI (k + 1))) 9 cm 0 = y
      have rO : ∀ j, j ≠ 6 → (r_hand4 x cm k b d f g).2.1 j = x.2.1 j := by
        intro j hj
        unfold r_hand4
        rw [sA_o hj, sA_o hj, sA_o hj, sA_o hj]
      have y5 : y.2.1 5 = upd (x.2.1 5) cm (nI (k + 1)) := by rw [← hy, sA_o (j := 5) (k := 9) (by decide), sA_k, rO 5 (by decide)]
      have yO : ∀ j, j ≠ 5 → j ≠ 6 → j ≠ 9 → y.2.1 j = x.2.1 j := fun j a b c => by rw [← hy, sA_o c, sA_o a, rO j b]
      have r1 : ∀ u w j, (hdC c cm k b d f g).1 u w j = if u = cm + 2 ∧ w = 0 then (if j = 9 then nI (k + 1) else if j = 11 then 0 else c.1 u w j) else c.1 u w j := by
        intro u w j
        show up3 (up3 c.1 (cm + 2) 0 (upd (c.1 (cm + 2) 0) 11 0)) (cm + 2) 0 (upd (up3 c.1 (cm + 2) 0 (upd (c.1 (cm + 2) 0) 11 0) (cm + 2) 0) 9 (nI (k + 1))) u w j = _
        by_cases z : u = cm + 2 ∧ w = 0
        · obtain ⟨rfl, rfl⟩ := z
          rw [up3_self, up3_self, if_pos ⟨rfl, rfl⟩]
          rfl
        · rw [up3_ne z, up3_ne z, if_neg z]
      have r2 : ∀ u w, ¬ (u = cm + 2 ∧ w < 8) → (hdC c cm k b d f g).2.1 u w = c.2.1 u w := by
        intro u w z
        show up3 (up3 (up3 (up3 c.2.1 (cm + 2) 3 _) (cm + 2) 4 _) (cm + 2) 5 _) (cm + 2) 6 _ u w = _
        rw [up3_ne (by omega), up3_ne (by omega), up3_ne (by omega), up3_ne (by omega)]
      refine hT.chg (k0 := cm) hcm rfl (by rw [← hy]; rfl) (fun m hm => ?_) ?_
      · refine ⟨fun u => ⟨?_, r2 _ _ (by omega)⟩, fun _ => rfl, by rw [yO 2 (by decide) (by decide) (by decide)], by rw [y5, upd_oth hm], fun i _ => ?_⟩
        · funext j; rw [r1, if_neg (by omega)]
        · rw [yO 7 (by decide) (by decide) (by decide), yO 8 (by decide) (by decide) (by decide)]
          exact ⟨rfl, fun _ _ => rfl⟩
      · obtain ⟨q1, q2, q3⟩ := hT.2.1 cm hcm
        refine ⟨by rw [r1, yO 2 (by decide) (by decide) (by decide), if_pos ⟨rfl, rfl⟩]; exact q1, by rw [r1, y5, upd_same, if_pos ⟨rfl, rfl⟩]; rfl, fun i hi => ?_⟩
        rw [yO 7 (by decide) (by decide) (by decide), yO 8 (by decide) (by decide) (by decide), r1, if_neg (by omega), r2 _ _ (by omega)]
        exact q3 i hi
set_option maxHeartbeats 1000000 in
theorem tw_frame {a b d : Int32} (hI : CInv c) (hTi : Tie3 c x) (hn : x.1 0 = nI n) (h8 : n ≤ 8) (h : (r = -1 ∧ (¬ (0 ≤ a.toInt ∧ a.toInt < cN c) ∨ ¬ (¬ b < 0 ∧ b < 40 ∧ ¬ d < -1 ∧ d ≤ 8)) ∧ L1 = L ∧ M1 = cM Γ L c) ∨ (r = 0 ∧ ∃ cm kn g, cm < cN c ∧ a = nI cm ∧ kn < 40 ∧ b = nI kn ∧ dOK d ∧ (∀ i, i < 16 → g i = 0) ∧ (∀ u w, ¬ (u = cm + 2 ∧ (w = 2 * kn + 8 ∨ w = 2 * kn + 9)) → L1 (nm u w) = L (nm u w)) ∧ M1 = cM Γ L1 (frC c cm kn d g))) : ∃ c1, M1 = cM Γ L1 c1 ∧ CInv c1 ∧ L1 (nm 0 0) = L (nm 0 0) ∧ Tie3 c1 (r_frame x n a b d).2 ∧ r = (r_frame x n a b d).1 := by
  obtain ⟨⟨hT, hX⟩, h13⟩ := hTi
  have en := hT.n hI hn h8
  have z0 : (0 : Int32).toInt = 0 := by decide
  have z40 : (40 : Int32).toInt = 40 := by decide
  have z1 : (-1 : Int32).toInt = -1 := by decide
  have z8 : (8 : Int32).toInt = 8 := by decide
  have y0 : (0 : Int64).toInt = 0 := by decide
  have y39 : (39 : Int64).toInt = 39 := by decide
  have y1 : (-1 : Int64).toInt = -1 := by decide
  have y8 : (8 : Int64).toInt = 8 := by decide
  unfold r_frame
  rcases h with ⟨e, g9, rfl, rfl⟩ | ⟨e, cm, kn, g, hcm, rfl, hkn, rfl, hd, hg, hL, rfl⟩
  · rw [if_neg (by
      rw [isM_iff, ← en, in_iff, in_iff, y0, y39, y1, y8]
      rintro ⟨u1, u2, u3⟩
      rcases g9 with g9 | g9
      · exact g9 u1
      · apply g9
        simp only [Int32.lt_iff_toInt_lt, Int32.le_iff_toInt_le, z0, z40, z1, z8]
        omega)]
    exact ⟨c, rfl, hI, rfl, ⟨⟨hT, hX⟩, h13⟩, e⟩
  · have d1 : -1 ≤ d.toInt ∧ d.toInt ≤ 8 := by
      rcases hd with rfl | ⟨m, hm, rfl⟩
      · decide
      · rw [nI_toInt (by omega)]; omega
    rw [if_pos ⟨by rw [isM_iff, nI_toInt (by omega)]; omega, by rw [in_iff, y0, y39, nI_toInt (by omega)]; omega, by rw [in_iff, y1, y8]; exact d1⟩, nI_clamp (by omega), nI_clamp (by omega)]
    refine ⟨_, rfl, frC_inv hI hcm hkn hd, hL 0 0 (by omega), ⟨⟨?_, X2_fr hX⟩, fr_35.trans h13⟩, e⟩
    show Tie (frC c cm kn d g) (sA (sAs (sA x 7 (40 * cm + kn) d) 8 (fmA (x.2.1 8) (16 * (40 * cm + kn)) 0 16)) 9 cm 0)
    generalize hy : sA (sAs (sA x 7 (40 * cm + kn) d) 8 (fmA (x.2.1 8) (16 * (40 * cm + kn)) 0 16)) 9 cm 0 = y
    have y7 : y.2.1 7 = upd (x.2.1 7) (40 * cm + kn) d := by rw [← hy, sA_o (j := 7) (k := 9) (by decide), sAs_o (by decide), sA_k]
    have y8 : y.2.1 8 = fmA (x.2.1 8) (16 * (40 * cm + kn)) 0 16 := by rw [← hy, sA_o (j := 8) (k := 9) (by decide), sAs_k]
    have yO : ∀ j, j ≠ 7 → j ≠ 8 → j ≠ 9 → y.2.1 j = x.2.1 j := fun j a b c => by rw [← hy, sA_o c, sAs_o b, sA_o a]
    have r1 : ∀ u w j, (frC c cm kn d g).1 u w j = if u = cm + 2 ∧ w = 0 then (if j = 11 then 0 else c.1 u w j) else if u = cm + 2 ∧ w = 2 * kn + 8 ∧ j = 1 then d else c.1 u w j := by
      intro u w j
      show up3 (up3 c.1 (cm + 2) (2 * kn + 8) (upd (c.1 (cm + 2) (2 * kn + 8)) 1 d)) (cm + 2) 0 (upd (c.1 (cm + 2) 0) 11 0) u w j = _
      by_cases z : u = cm + 2 ∧ w = 0
      · obtain ⟨rfl, rfl⟩ := z
        rw [up3_self, if_pos ⟨rfl, rfl⟩]
        rfl
      · rw [up3_ne z, if_neg z]
        by_cases z2 : u = cm + 2 ∧ w = 2 * kn + 8
        · obtain ⟨rfl, rfl⟩ := z2
          rw [up3_self]
          by_cases z3 : j = 1
          · rw [if_pos ⟨rfl, rfl, z3⟩, z3, upd_same]
          · rw [if_neg (fun q => z3 q.2.2), upd_oth z3]
        · rw [up3_ne z2, if_neg (fun q => z2 ⟨q.1, q.2.1⟩)]
    have r2 : ∀ u w, (frC c cm kn d g).2.1 u w = if u = cm + 2 ∧ w = 2 * kn + 9 then g else c.2.1 u w := fun u w => rfl
    have r3 : ∀ m i, cF (frC c cm kn d g) m i = if m = cm ∧ i = kn then true else cF c m i := fun m i => rfl
    refine hT.chg (k0 := cm) hcm rfl (by rw [← hy]; rfl) (fun m hm => ?_) ?_
    · refine ⟨fun u => ⟨?_, ?_⟩, fun i => ?_, by rw [yO 2 (by decide) (by decide) (by decide)], by rw [yO 5 (by decide) (by decide) (by decide)], fun i hi => ⟨?_, fun j hj => ?_⟩⟩
      · funext j; rw [r1, if_neg (by omega), if_neg (by omega)]
      · rw [r2, if_neg (by omega)]
      · rw [r3, if_neg (by omega)]
      · rw [y7, upd_oth (by omega)]
      · rw [y8, fmA_at, if_neg (by omega)]
    · obtain ⟨q1, q2, q3⟩ := hT.2.1 cm hcm
      refine ⟨by rw [r1, yO 2 (by decide) (by decide) (by decide), if_pos ⟨rfl, rfl⟩]; exact q1, by rw [r1, yO 5 (by decide) (by decide) (by decide), if_pos ⟨rfl, rfl⟩]; exact q2, fun i hi => ?_⟩
      by_cases w : i = kn
      · subst w
        have rA : (frC c cm i d g).1 (cm + 2) (2 * i + 8) 1 = d := by rw [r1, if_neg (by omega), if_pos (by exact ⟨rfl, rfl, rfl⟩)]
        have rB : (frC c cm i d g).2.1 (cm + 2) (2 * i + 9) = g := by rw [r2, if_pos (by exact ⟨rfl, rfl⟩)]
        have rC : cF (frC c cm i d g) cm i = true := by rw [r3, if_pos (by exact ⟨rfl, rfl⟩)]
        rw [rA, rB, rC, y7, upd_same]
        refine ⟨fun _ => ⟨rfl, fun j hj => ?_⟩, fun z => by cases z⟩
        rw [y8, fmA_at, if_pos (by omega)]
        exact hg j hj
      · have rA : (frC c cm kn d g).1 (cm + 2) (2 * i + 8) 1 = c.1 (cm + 2) (2 * i + 8) 1 := by rw [r1, if_neg (by omega), if_neg (by omega)]
        have rB : (frC c cm kn d g).2.1 (cm + 2) (2 * i + 9) = c.2.1 (cm + 2) (2 * i + 9) := by rw [r2, if_neg (by omega)]
        have rC : cF (frC c cm kn d g) cm i = cF c cm i := by rw [r3, if_neg (by omega)]
        rw [rA, rB, rC, y7, upd_oth (by omega)]
        refine ⟨fun z => ⟨((q3 i hi).1 z).1, fun j hj => ?_⟩, (q3 i hi).2⟩
        rw [y8, fmA_at, if_neg (by omega)]
        exact ((q3 i hi).1 z).2 j hj
set_option maxHeartbeats 1000000 in
theorem tw_set {a b d f : Int32} (hI : CInv c) (hTi : Tie3 c x) (hn : x.1 0 = nI n) (h8 : n ≤ 8) (h : sPost Γ L c a b d f r L1 M1) : ∃ c1, M1 = cM Γ L1 c1 ∧ CInv c1 ∧ L1 (nm 0 0) = L (nm 0 0) ∧ Tie3 c1 (r_set x n a b d f).2 ∧ r = (r_set x n a b d f).1 := by
  obtain ⟨⟨hT, hX⟩, h13⟩ := hTi
  have en := hT.n hI hn h8
  have z0 : (0 : Int32).toInt = 0 := by decide
  have z40 : (40 : Int32).toInt = 40 := by decide
  have y0 : (0 : Int64).toInt = 0 := by decide
  have y39 : (39 : Int64).toInt = 39 := by decide
  obtain ⟨rfl, h⟩ := h
  unfold r_set
  rcases h with ⟨e, rfl, h⟩ | ⟨cm, kn, dn, pn, hcm, rfl, hkn, rfl, hf, hdn, ed, hpn, rfl, hkk, e, rfl⟩
  · rw [if_neg ?_]
    · exact ⟨c, rfl, hI, rfl, ⟨⟨hT, hX⟩, h13⟩, e⟩
    rintro ⟨u1, u2, u3, u4, u5⟩
    rcases h with h | ⟨cm, hcm, rfl, h⟩
    · rw [isM_iff, ← en] at u1
      exact h u1
    · rw [nI_clamp (by omega)] at u3 u4
      rw [in_iff, y0, y39] at u2
      rcases h with (h | h | ⟨n0, hn0, rfl, h⟩) | ⟨n0, dn, hn0, rfl, hf, hdn, ed, h⟩
      · have := Int32.lt_iff_toInt_lt.mp h
        omega
      · have := Int32.le_iff_toInt_le.mp h
        omega
      · rw [nI_clamp (by omega)] at u3
        have q := (hT.2.1 cm hcm).2.2 n0 hn0
        have : x.2.1 7 (40 * cm + n0) = -1 := by
          cases hf : cF c cm n0 with
          | true => rw [← (q.1 hf).1]; exact h hf
          | false => exact q.2 hf
        rw [this] at u3
        exact u3 (by decide)
      · rw [nI_clamp (by omega)] at u3 u4
        have q := (((hT.2.1 cm hcm).2.2 n0 hn0).1 hf).1
        rw [ed] at q
        rw [← q] at u4
        rcases h with h | h
        · have e7 : (7 : Int32) + nI dn = nI (7 + dn) := nadd (a := 7) (b := dn) rfl rfl
          rw [e7, in_iff, y0, i64_toInt, nI_toInt (by omega)] at u4
          have e8 : (8 : Int32) + nI dn = nI (8 + dn) := nadd (a := 8) (b := dn) rfl rfl
          have : p_has (nI dn) d = true := by
            unfold p_has
            rw [e8]
            simp only [Bool.and_eq_true, Bool.not_eq_true', decide_eq_false_iff_not, decide_eq_true_eq, Int32.lt_iff_toInt_lt, z0, nI_toInt (show dn < 2 ^ 31 by omega), nI_toInt (show 8 + dn < 2 ^ 31 by omega)]
            omega
          rw [this] at h; cases h
        · rw [k_kind_eq, u5] at h; cases h
  · have q := ((hT.2.1 cm hcm).2.2 kn hkn).1 hf
    have q1 := q.1
    rw [ed] at q1
    have e7 : (7 : Int32) + nI dn = nI (7 + dn) := nadd (a := 7) (b := dn) rfl rfl
    rw [nI_clamp (show cm < 2 ^ 31 by have := hI.1; omega), nI_clamp (show kn < 2 ^ 31 by omega), nI_clamp (show pn < 2 ^ 31 by omega), ← q1, if_pos ⟨by rw [isM_iff, nI_toInt (by have := hI.1; omega)]; omega, by rw [in_iff, y0, y39, nI_toInt (by omega)]; omega, by rw [Int32.lt_iff_toInt_lt, nI_toInt (by omega), z0]; omega, by rw [e7, in_iff, y0, i64_toInt, nI_toInt (by omega), nI_toInt (by omega)]; omega, by rw [← k_kind_eq]; exact hkk⟩]
    have hp : pOK c (cm + 2) (2 * kn + 8) := pOF hcm hkn hf
    refine ⟨_, rfl, CInv.putP (CInv.right hI) hp (by show dn ≤ 8; exact hdn), rfl, ⟨⟨?_, X2_set hX⟩, set_35.trans h13⟩, e.trans (q.2 pn (by omega))⟩
    show Tie _ (sA (sA x 8 (16 * (40 * cm + kn) + pn) f) 9 cm 0)
    generalize hy : sA (sA x 8 (16 * (40 * cm + kn) + pn) f) 9 cm 0 = y
    have y8 : y.2.1 8 = upd (x.2.1 8) (16 * (40 * cm + kn) + pn) f := by rw [← hy, sA_o (j := 8) (k := 9) (by decide), sA_k]
    have yO : ∀ j, j ≠ 8 → j ≠ 9 → y.2.1 j = x.2.1 j := fun j a b => by rw [← hy, sA_o b, sA_o a]
    generalize hc : sP (tS c (cm + 2) 0 11 0) (cm + 2) (2 * kn + 8) (upd (c.2.1 (cm + 2) (2 * kn + 9)) pn f, dn) = c1
    have r1 : ∀ u w j, ¬ (u = cm + 2 ∧ w = 0 ∧ j = 11) → c1.1 u w j = c.1 u w j := by
      intro u w j z
      rw [← hc]
      by_cases z2 : u = cm + 2 ∧ w = 2 * kn + 8 ∧ j = 1
      · obtain ⟨rfl, rfl, rfl⟩ := z2
        rw [sP_dep, ed]
      · rw [sP_rdS z2, tS_rd z]
    have r2 : ∀ u w, c1.2.1 u w = if u = cm + 2 ∧ w = 2 * kn + 9 then upd (c.2.1 (cm + 2) (2 * kn + 9)) pn f else c.2.1 u w := fun u w => by rw [← hc]; rfl
    have r3 : cF c1 = cF c := by rw [← hc]; rfl
    refine hT.chg (k0 := cm) hcm (by rw [← hc]; rfl) (by rw [← hy]; rfl) (fun m hm => ?_) ?_
    · refine ⟨fun u => ⟨?_, ?_⟩, fun i => by rw [r3], by rw [yO 2 (by decide) (by decide)], by rw [yO 5 (by decide) (by decide)], fun i hi => ⟨by rw [yO 7 (by decide) (by decide)], fun j hj => ?_⟩⟩
      · funext j; exact r1 _ _ _ (by omega)
      · rw [r2, if_neg (by omega)]
      · rw [y8, upd_oth (by omega)]
    · obtain ⟨q1, q2, q3⟩ := hT.2.1 cm hcm
      refine ⟨by rw [r1 _ _ _ (by omega), yO 2 (by decide) (by decide)]; exact q1, by rw [r1 _ _ _ (by omega), yO 5 (by decide) (by decide)]; exact q2, fun i hi => ?_⟩
      rw [r1 _ _ _ (by omega), r3, yO 7 (by decide) (by decide), r2]
      refine ⟨fun z => ⟨((q3 i hi).1 z).1, fun j hj => ?_⟩, (q3 i hi).2⟩
      by_cases w : i = kn
      · subst w
        rw [if_pos ⟨rfl, rfl⟩, y8]
        by_cases w2 : j = pn
        · rw [w2, upd_same, upd_same]
        · rw [upd_oth w2, upd_oth (by omega)]
          exact ((q3 i hi).1 z).2 j hj
      · rw [if_neg (by omega), y8, upd_oth (by omega)]
        exact ((q3 i hi).1 z).2 j hj
end TW
