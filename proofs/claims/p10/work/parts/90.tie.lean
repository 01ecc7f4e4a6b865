/-! CLASS AND REFERENCE TIED: how many METHODS, instructions, HANDLERS, and the FRAMES -/
theorem fmA_at {f : Nat → Int32} {o : Nat} {v : Int32} : ∀ (n j : Nat), fmA f o v n j = if o ≤ j ∧ j < o + n then v else f j
  | 0, j => by
    have : ¬ (o ≤ j ∧ j < o + 0) := by omega
    rw [if_neg this]; rfl
  | n + 1, j => by
    show upd (fmA f o v n) (o + n) v j = _
    by_cases w : j = o + n
    · rw [w, upd_same, if_pos (by omega)]
    · rw [upd_oth w, fmA_at n j]
      by_cases z : o ≤ j ∧ j < o + n
      · rw [if_pos z, if_pos (by omega)]
      · rw [if_neg z, if_neg (by omega)]
theorem in_iff {a : Int32} {lo hi : Int64} : r_isIn a.toInt64 lo hi = true ↔ lo.toInt ≤ a.toInt ∧ a.toInt ≤ hi.toInt := by rw [r_isIn_iff, i64_toInt]
def Tie (c : CS) (x : RS) : Prop := x.1 0 = nI (cN c) ∧ (∀ m, m < cN c → c.1 (m + 2) 0 4 = x.2.1 2 m ∧ c.1 (m + 2) 0 9 = x.2.1 5 m ∧ ∀ i, i < 40 → (cF c m i = true → c.1 (m + 2) (2 * i + 8) 1 = x.2.1 7 (40 * m + i) ∧ ∀ j, j < 16 → c.2.1 (m + 2) (2 * i + 9) j = x.2.1 8 (16 * (40 * m + i) + j)) ∧ (cF c m i = false → x.2.1 7 (40 * m + i) = -1)) ∧ ∀ m, cN c ≤ m → m < 8 → x.2.1 2 m = 0 ∧ x.2.1 5 m = 0
theorem Tie.n {c : CS} {x : RS} {n : Nat} (h : Tie c x) (hI : CInv c) (hn : x.1 0 = nI n) (h8 : n ≤ 8) : cN c = n := nI_inj (by have := hI.1; omega) (by omega) (h.1.symm.trans hn)
theorem Tie.keep {c c1 : CS} {x y : RS} (h : Tie c x) (k : kp0 c c1) (e0 : y.1 0 = x.1 0) (e : ∀ j, j < 9 → y.2.1 j = x.2.1 j) : Tie c1 y := by
  obtain ⟨h1, h2, h3⟩ := h
  refine ⟨by rw [e0, k.1]; exact h1, fun m hm => ?_, fun m hm h8 => ?_⟩
  · rw [k.1] at hm
    obtain ⟨q1, q2, q3⟩ := h2 m hm
    refine ⟨by rw [(k.2.2 (m + 2) 0 (by omega)).2.2 4 (by omega), e 2 (by decide)]; exact q1, by rw [(k.2.2 (m + 2) 0 (by omega)).2.2 9 (by omega), e 5 (by decide)]; exact q2, fun i hi => ?_⟩
    rw [k.2.1, (k.2.2 (m + 2) (2 * i + 8) (by omega)).2.2 1 (by omega), (k.2.2 (m + 2) (2 * i + 9) (by omega)).1, e 7 (by decide), e 8 (by decide)]
    exact q3 i hi
  · rw [k.1] at hm
    rw [e 2 (by decide), e 5 (by decide)]
    exact h3 m hm h8
section TV
variable {Γ : mG} {L L1 : mI → Nat} {M1 : mM} {c : CS} {x : RS} {n : Nat} {r : Int32}
set_option maxHeartbeats 1000000 in
theorem tv_method {a : Int32} (hI : CInv c) (hT : Tie c x) (hn : x.1 0 = nI n) (h8 : n ≤ 8) (h : (r = -1 ∧ (a < 0 ∨ ¬ a ≤ 4) ∧ L1 = L ∧ M1 = cM Γ L c) ∨ ((¬ a < 0 ∧ a ≤ 4) ∧ ((cN c = 8 ∧ r = -3 ∧ L1 = L ∧ M1 = cM Γ L c) ∨ (cN c < 8 ∧ r = nI (cN c) ∧ (∀ u w, u ≠ cN c + 2 → L1 (nm u w) = L (nm u w)) ∧ M1 = cM Γ L1 (addC c a))))) : ∃ c1, M1 = cM Γ L1 c1 ∧ CInv c1 ∧ L1 (nm 0 0) = L (nm 0 0) ∧ Tie c1 (r_method x n a).2 ∧ r = (r_method x n a).1 := by
  have en := hT.n hI hn h8
  have z0 : (0 : Int32).toInt = 0 := by decide
  have z4 : (4 : Int32).toInt = 4 := by decide
  have y0 : (0 : Int64).toInt = 0 := by decide
  have y4 : (4 : Int64).toInt = 4 := by decide
  unfold r_method
  rcases h with ⟨e, b, rfl, rfl⟩ | ⟨⟨a1, a2⟩, h⟩
  · have c1 : ¬ r_isIn a.toInt64 0 4 = true := by
      rw [in_iff, y0, y4]
      rcases b with b | b
      · have := Int32.lt_iff_toInt_lt.mp b
        omega
      · have := Int32.lt_iff_toInt_lt.mp (Int32.not_le.mp b)
        omega
    rw [if_neg c1]
    exact ⟨c, rfl, hI, rfl, hT, e⟩
  · have b1 := Int32.le_iff_toInt_le.mp (Int32.not_lt.mp a1)
    have b2 := Int32.le_iff_toInt_le.mp a2
    have c1 : r_isIn a.toInt64 0 4 = true := by
      rw [in_iff, y0, y4]
      omega
    rw [if_pos c1]
    rcases h with ⟨g, e, rfl, rfl⟩ | ⟨g, e, hL, rfl⟩
    · rw [if_pos (by omega)]
      exact ⟨c, rfl, hI, rfl, hT, e⟩
    · rw [if_neg (by omega)]
      obtain ⟨ea, -⟩ := nat_of_toInt (a := a) (by omega)
      refine ⟨_, rfl, addC_inv (k := a.toInt.toNat) hI g ea (by omega), hL 0 0 (by omega), ?_, by rw [← en]; exact e⟩
      show Tie (addC c a) (sS (sAs (sA x 1 n a) 7 (fmA (x.2.1 7) (40 * n) (-1) 40)) 0 (nI (n + 1)))
      obtain ⟨h1, h2, h3⟩ := hT
      generalize hy : sS (sAs (sA x 1 n a) 7 (fmA (x.2.1 7) (40 * n) (-1) 40)) 0 (nI (n + 1)) = y
      have y0 : y.1 0 = nI (n + 1) := by rw [← hy]; exact sS_k _ _ _
      have y7 : y.2.1 7 = fmA (x.2.1 7) (40 * n) (-1) 40 := by rw [← hy]; exact sAs_k _ _ _
      have yO : ∀ j, j ≠ 1 → j ≠ 7 → y.2.1 j = x.2.1 j := fun j a b => by rw [← hy]; exact (sAs_o b).trans (sA_o a)
      rw [en] at h2 h3
      refine ⟨?_, fun m hm => ?_, fun m hm hm8 => ?_⟩
      · rw [y0]
        show nI (n + 1) = nI (cN c + 1)
        rw [en]
      · have hm : m < cN c + 1 := hm
        rw [yO 2 (by decide) (by decide), yO 5 (by decide) (by decide), yO 8 (by decide) (by decide), y7]
        by_cases w : m = n
        · subst w
          have a1 : ∀ b k, k ≠ 1 → (addC c a).1 (m + 2) b k = 0 := fun b k hk => by simp [addC, en, hk]
          have a2 : ∀ i, cF (addC c a) m i = false := fun i => by
            show (if m = cN c then _ else _) = _
            rw [if_pos en.symm]
          obtain ⟨z1, z2⟩ := h3 m (by omega) (by omega)
          refine ⟨by rw [a1 0 4 (by decide), z1], by rw [a1 0 9 (by decide), z2], fun i hi => ⟨fun f => ?_, fun _ => ?_⟩⟩
          · rw [a2] at f; cases f
          · rw [fmA_at, if_pos (by omega)]
        · have a1 : ∀ b, (addC c a).1 (m + 2) b = c.1 (m + 2) b := fun b => by
            show (if m + 2 = cN c + 2 then _ else _) = _
            rw [if_neg (by omega)]
          have a3 : ∀ b, (addC c a).2.1 (m + 2) b = c.2.1 (m + 2) b := fun b => by
            show (if m + 2 = cN c + 2 then _ else _) = _
            rw [if_neg (by omega)]
          have a2 : ∀ i, cF (addC c a) m i = cF c m i := fun i => by
            show (if m = cN c then _ else _) = _
            rw [if_neg (by omega)]
          obtain ⟨q1, q2, q3⟩ := h2 m (by omega)
          refine ⟨by rw [a1]; exact q1, by rw [a1]; exact q2, fun i hi => ?_⟩
          rw [a1, a2, a3, fmA_at, if_neg (by omega)]
          exact q3 i hi
      · have hm : cN c + 1 ≤ m := hm
        rw [yO 2 (by decide) (by decide), yO 5 (by decide) (by decide)]
        exact h3 m (by omega) hm8
theorem isM_iff {k : Nat} {a : Int32} : r_isM k a = true ↔ (0 ≤ a.toInt ∧ a.toInt < k) := by
  unfold r_isM
  exact decide_eq_true_iff
/-- METHOD k0 is changed: its own rows are told anew -/
theorem Tie.chg {c c1 : CS} {x y : RS} {k0 : Nat} (h : Tie c x) (hk0 : k0 < cN c) (en : cN c1 = cN c) (e0 : y.1 0 = x.1 0) (ho : ∀ m, m ≠ k0 → (∀ b, c1.1 (m + 2) b = c.1 (m + 2) b ∧ c1.2.1 (m + 2) b = c.2.1 (m + 2) b) ∧ (∀ i, cF c1 m i = cF c m i) ∧ y.2.1 2 m = x.2.1 2 m ∧ y.2.1 5 m = x.2.1 5 m ∧ ∀ i, i < 40 → y.2.1 7 (40 * m + i) = x.2.1 7 (40 * m + i) ∧ ∀ j, j < 16 → y.2.1 8 (16 * (40 * m + i) + j) = x.2.1 8 (16 * (40 * m + i) + j)) (hk : c1.1 (k0 + 2) 0 4 = y.2.1 2 k0 ∧ c1.1 (k0 + 2) 0 9 = y.2.1 5 k0 ∧ ∀ i, i < 40 → (cF c1 k0 i = true → c1.1 (k0 + 2) (2 * i + 8) 1 = y.2.1 7 (40 * k0 + i) ∧ ∀ j, j < 16 → c1.2.1 (k0 + 2) (2 * i + 9) j = y.2.1 8 (16 * (40 * k0 + i) + j)) ∧ (cF c1 k0 i = false → y.2.1 7 (40 * k0 + i) = -1)) : Tie c1 y := by
  obtain ⟨h1, h2, h3⟩ := h
  refine ⟨by rw [e0, en]; exact h1, fun m hm => ?_, fun m hm h8 => ?_⟩
  · rw [en] at hm
    by_cases w : m = k0
    · subst w; exact hk
    · obtain ⟨o1, o2, o3, o4, o5⟩ := ho m w
      obtain ⟨q1, q2, q3⟩ := h2 m hm
      refine ⟨by rw [(o1 0).1, o3]; exact q1, by rw [(o1 0).1, o4]; exact q2, fun i hi => ?_⟩
      obtain ⟨p1, p2⟩ := q3 i hi
      refine ⟨fun f => ?_, fun f => ?_⟩
      · rw [o2] at f
        obtain ⟨s1, s2⟩ := p1 f
        refine ⟨by rw [(o1 _).1, (o5 i hi).1]; exact s1, fun j hj => ?_⟩
        rw [(o1 _).2, (o5 i hi).2 j hj]
        exact s2 j hj
      · rw [o2] at f
        rw [(o5 i hi).1]
        exact p2 f
  · rw [en] at hm
    obtain ⟨-, -, o3, o4, -⟩ := ho m (by omega)
    rw [o3, o4]
    exact h3 m hm h8
theorem up3_at {α : Type} {g : Nat → Nat → α} {a b x y : Nat} {v : α} : up3 g a b v x y = if x = a ∧ y = b then v else g x y := rfl
set_option maxHeartbeats 1000000 in
theorem tv_op {a b : Int32} {v : Int64} (hI : CInv c) (hT : Tie c x) (hRI : RInv x) (hn : x.1 0 = nI n) (h8 : n ≤ 8) (h : L1 = L ∧ ((r = -1 ∧ ¬ (0 ≤ a.toInt ∧ a.toInt < cN c) ∧ M1 = cM Γ L c) ∨ ∃ cm, cm < cN c ∧ a = nI cm ∧ ∃ k, k ≤ 40 ∧ c.1 (cm + 2) 0 4 = nI k ∧ ((k = 40 ∧ r = -3 ∧ M1 = cM Γ L c) ∨ (k < 40 ∧ r = nI k ∧ M1 = cM Γ L (opC c cm k b v))))) : ∃ c1, M1 = cM Γ L1 c1 ∧ CInv c1 ∧ L1 (nm 0 0) = L (nm 0 0) ∧ Tie c1 (r_op x n (oM x) a b v).2 ∧ r = (r_op x n (oM x) a b v).1 := by
  have en := hT.n hI hn h8
  obtain ⟨rfl, h⟩ := h
  unfold r_op
  rcases h with ⟨e, g, rfl⟩ | ⟨cm, hcm, rfl, k, hk40, ek, h⟩
  · rw [if_neg (by rw [isM_iff, ← en]; exact g)]
    exact ⟨c, rfl, hI, rfl, hT, e⟩
  · have c1 : r_isM n (nI cm) = true := by rw [isM_iff, nI_toInt (by omega)]; omega
    rw [if_pos c1, nI_clamp (by omega)]
    have h3 : ∀ k, k < 8 → rq x k := by obtain ⟨_, _, _, h3, _⟩ := hRI; exact h3
    have q := h3 cm (by omega)
    have ok : oM x cm = k := by
      have e1 := (hT.2.1 cm hcm).1
      exact nI_inj (by have := q.2.1; omega) (by omega) (q.1.symm.trans (e1.symm.trans ek))
    rw [ok]
    rcases h with ⟨g, e, rfl⟩ | ⟨g, e, rfl⟩
    · rw [if_pos g]
      exact ⟨c, rfl, hI, rfl, hT, e⟩
    · rw [if_neg (by omega)]
      refine ⟨_, rfl, CInv.size (CInv.right (CInv.putJ (CInv.putV hI (by omega)))) ⟨k + 1, by omega, rfl⟩, rfl, ?_, e⟩
      show Tie (opC c cm k b v) (sA (sA (sJ (sA x 3 (40 * cm + k) b) 4 (40 * cm + k) v) 2 cm (nI (k + 1))) 9 cm 0)
      generalize hy : sA (sA (sJ (sA x 3 (40 * cm + k) b) 4 (40 * cm + k) v) 2 cm (nI (k + 1))) 9 cm 0 = y
      have y2 : y.2.1 2 = upd (x.2.1 2) cm (nI (k + 1)) := by rw [← hy, sA_o (j := 2) (k := 9) (by decide), sA_k]; exact congrArg (fun g => upd g cm (nI (k + 1))) (sA_o (x := x) (k := 3) (j := 2) (f := 40 * cm + k) (v := b) (by decide))
      have yO : ∀ j, j ≠ 2 → j ≠ 3 → j ≠ 9 → y.2.1 j = x.2.1 j := fun j a b c => by rw [← hy, sA_o c, sA_o a]; exact sA_o b
      have r1 : ∀ u w j, (opC c cm k b v).1 u w j = if u = cm + 2 ∧ w = 0 then (if j = 4 then nI (k + 1) else if j = 11 then 0 else c.1 u w j) else c.1 u w j := by
        intro u w j
        show up3 (up3 c.1 (cm + 2) 0 (upd (c.1 (cm + 2) 0) 11 0)) (cm + 2) 0 (upd (up3 c.1 (cm + 2) 0 (upd (c.1 (cm + 2) 0) 11 0) (cm + 2) 0) 4 (nI (k + 1))) u w j = _
        by_cases z : u = cm + 2 ∧ w = 0
        · obtain ⟨rfl, rfl⟩ := z
          rw [up3_self, up3_self, if_pos ⟨rfl, rfl⟩]
          rfl
        · rw [up3_ne z, up3_ne z, if_neg z]
      have r2 : ∀ u w, ¬ (u = cm + 2 ∧ w = 1) → (opC c cm k b v).2.1 u w = c.2.1 u w := fun u w z => up3_ne z
      refine hT.chg (k0 := cm) hcm rfl (by rw [← hy]; rfl) (fun m hm => ?_) ?_
      · refine ⟨fun u => ⟨?_, r2 _ _ (by omega)⟩, fun _ => rfl, by rw [y2, upd_oth hm], by rw [yO 5 (by decide) (by decide) (by decide)], fun i _ => ?_⟩
        · funext j; rw [r1, if_neg (by omega)]
        · rw [yO 7 (by decide) (by decide) (by decide), yO 8 (by decide) (by decide) (by decide)]
          exact ⟨rfl, fun _ _ => rfl⟩
      · obtain ⟨q1, q2, q3⟩ := hT.2.1 cm hcm
        refine ⟨by rw [r1, y2, upd_same, if_pos ⟨rfl, rfl⟩]; rfl, by rw [r1, yO 5 (by decide) (by decide) (by decide), if_pos ⟨rfl, rfl⟩]; exact q2, fun i hi => ?_⟩
        rw [yO 7 (by decide) (by decide) (by decide), yO 8 (by decide) (by decide) (by decide), r1, if_neg (by omega), r2 _ _ (by omega)]
        exact q3 i hi
theorem hOK_iff {b d f g : Int32} : hOK b d f g ↔ (¬ b < 0 ∧ ¬ d ≤ b ∧ ¬ 40 < d ∧ r_isIn f.toInt64 0 39 = true ∧ r_isIn g.toInt64 0 7 = true) := by
  have z0 : (0 : Int32).toInt = 0 := by decide
  have z40 : (40 : Int32).toInt = 40 := by decide
  have z7 : (7 : Int32).toInt = 7 := by decide
  have y0 : (0 : Int64).toInt = 0 := by decide
  have y39 : (39 : Int64).toInt = 39 := by decide
  have y7 : (7 : Int64).toInt = 7 := by decide
  unfold hOK
  rw [in_iff, in_iff, y0, y39, y7]
  simp only [Int32.lt_iff_toInt_lt, Int32.le_iff_toInt_le, z0, z40, z7]
  omega
set_option maxHeartbeats 1000000 in
theorem tv_handler {a b d f g : Int32} (hI : CInv c) (hT : Tie c x) (hRI : RInv x) (hn : x.1 0 = nI n) (h8 : n ≤ 8) (h : L1 = L ∧ ((r = -1 ∧ (¬ (0 ≤ a.toInt ∧ a.toInt < cN c) ∨ ¬ hOK b d f g) ∧ M1 = cM Γ L c) ∨ ∃ cm, cm < cN c ∧ a = nI cm ∧ hOK b d f g ∧ ∃ k, k ≤ 6 ∧ c.1 (cm + 2) 0 9 = nI k ∧ ((k = 6 ∧ r = -3 ∧ M1 = cM Γ L c) ∨ (k < 6 ∧ r = nI (k + 1) ∧ M1 = cM Γ L (hdC c cm k b d f g))))) : ∃ c1, M1 = cM Γ L1 c1 ∧ CInv c1 ∧ L1 (nm 0 0) = L (nm 0 0) ∧ Tie c1 (r_handler x n (hN x) a b d f g).2 ∧ r = (r_handler x n (hN x) a b d f g).1 := by
  have en := hT.n hI hn h8
  obtain ⟨rfl, h⟩ := h
  unfold r_handler
  rcases h with ⟨e, g9, rfl⟩ | ⟨cm, hcm, rfl, hok, k, hk40, ek, h⟩
  · rw [if_neg (by
      rw [isM_iff, ← en, ← hOK_iff]
      rintro ⟨u1, u2⟩
      rcases g9 with g9 | g9
      · exact g9 u1
      · exact g9 u2)]
    exact ⟨c, rfl, hI, rfl, hT, e⟩
  · have c1 : r_isM n (nI cm) = true := by rw [isM_iff, nI_toInt (by omega)]; omega
    rw [if_pos ⟨c1, hOK_iff.mp hok⟩, nI_clamp (by omega)]
    have h3 : ∀ k, k < 8 → rq x k := by obtain ⟨_, _, _, h3, _⟩ := hRI; exact h3
    have q := h3 cm (by omega)
    have ok : hN x cm = k := by
      have e1 := (hT.2.1 cm hcm).2.1
      exact nI_inj (by have := q.2.2.2.1; omega) (by omega) (q.2.2.1.symm.trans (e1.symm.trans ek))
    rw [ok]
    rcases h with ⟨g9, e, rfl⟩ | ⟨g9, e, rfl⟩
    · rw [if_pos g9]
      exact ⟨c, rfl, hI, rfl, hT, e⟩
    · rw [if_neg (by omega)]
      refine ⟨_, rfl, CInv.hmany (CInv.right (CInv.putV (CInv.putV (CInv.putV (CInv.putV hI (by omega)) (by omega)) (by omega)) (by omega))) ⟨k + 1, by omega, rfl⟩, rfl, ?_, e⟩
      show Tie (hdC c cm k b d f g) (sA (sA (r_hand4 x cm k b d f g) 5 cm (nI (k + 1))) 9 cm 0)
      generalize hy : sA (sA (r_hand4 x cm k b d f g) 5 cm (nI (k + 1))) 9 cm 0 = y
      have rO : ∀ j, j ≠ 6 → (r_hand4 x cm k b d f g).2.1 j = x.2.1 j := by
        intro j hj
        unfold r_hand4
        rw [sA_o hj, sA_o hj, sA_o hj, sA_o hj]
      have y5 : y.2.1 5 = upd (x.2.1 5) cm (nI (k + 1)) := by rw [← hy, sA_o (j := 5) (k := 9) (by decide), sA_k, rO 5 (by decide)]
      have yO : ∀ j, j ≠ 5 → j ≠ 6 → j ≠ 9 → y.2.1 j = x.2.1 j := fun j a b c => by rw [← hy, sA_o c, sA_o a, rO j b]
      have r1 : ∀ u w j, (hdC c cm k b d f g).1 u w j = if u = cm + 2 ∧ w = 0 then (if j = 9 then nI (k + 1) else if j = 11 then 0 else c.1 u w j) else c.1 u w j := by
        intro u w j
        show up3 (up3 c.1 (cm + 2) 0 (upd (c.1 (cm + 2) 0) 11 0)) (cm + 2) 0 (upd (up3 c.1 (cm + 2) 0 (upd (c.1 (cm + 2) 0) 11 0) (cm + 2) 0) 9 (nI (k + 1))) u w j = _
        by_cases z : u = cm + 2 ∧ w = 0
        · obtain ⟨rfl, rfl⟩ := z
          rw [up3_self, up3_self, if_pos ⟨rfl, rfl⟩]
          rfl
        · rw [up3_ne z, up3_ne z, if_neg z]
      have r2 : ∀ u w, ¬ (u = cm + 2 ∧ w < 8) → (hdC c cm k b d f g).2.1 u w = c.2.1 u w := by
        intro u w z
        show up3 (up3 (up3 (up3 c.2.1 (cm + 2) 3 _) (cm + 2) 4 _) (cm + 2) 5 _) (cm + 2) 6 _ u w = _
        rw [up3_ne (by omega), up3_ne (by omega), up3_ne (by omega), up3_ne (by omega)]
      refine hT.chg (k0 := cm) hcm rfl (by rw [← hy]; rfl) (fun m hm => ?_) ?_
      · refine ⟨fun u => ⟨?_, r2 _ _ (by omega)⟩, fun _ => rfl, by rw [yO 2 (by decide) (by decide) (by decide)], by rw [y5, upd_oth hm], fun i _ => ?_⟩
        · funext j; rw [r1, if_neg (by omega)]
        · rw [yO 7 (by decide) (by decide) (by decide), yO 8 (by decide) (by decide) (by decide)]
          exact ⟨rfl, fun _ _ => rfl⟩
      · obtain ⟨q1, q2, q3⟩ := hT.2.1 cm hcm
        refine ⟨by rw [r1, yO 2 (by decide) (by decide) (by decide), if_pos ⟨rfl, rfl⟩]; exact q1, by rw [r1, y5, upd_same, if_pos ⟨rfl, rfl⟩]; rfl, fun i hi => ?_⟩
        rw [yO 7 (by decide) (by decide) (by decide), yO 8 (by decide) (by decide) (by decide), r1, if_neg (by omega), r2 _ _ (by omega)]
        exact q3 i hi
set_option maxHeartbeats 1000000 in
theorem tv_frame {a b d : Int32} (hI : CInv c) (hT : Tie c x) (hn : x.1 0 = nI n) (h8 : n ≤ 8) (h : (r = -1 ∧ (¬ (0 ≤ a.toInt ∧ a.toInt < cN c) ∨ ¬ (¬ b < 0 ∧ b < 40 ∧ ¬ d < -1 ∧ d ≤ 8)) ∧ L1 = L ∧ M1 = cM Γ L c) ∨ (r = 0 ∧ ∃ cm kn g, cm < cN c ∧ a = nI cm ∧ kn < 40 ∧ b = nI kn ∧ dOK d ∧ (∀ i, i < 16 → g i = 0) ∧ (∀ u w, ¬ (u = cm + 2 ∧ (w = 2 * kn + 8 ∨ w = 2 * kn + 9)) → L1 (nm u w) = L (nm u w)) ∧ M1 = cM Γ L1 (frC c cm kn d g))) : ∃ c1, M1 = cM Γ L1 c1 ∧ CInv c1 ∧ L1 (nm 0 0) = L (nm 0 0) ∧ Tie c1 (r_frame x n a b d).2 ∧ r = (r_frame x n a b d).1 := by
  have en := hT.n hI hn h8
  have z0 : (0 : Int32).toInt = 0 := by decide
  have z40 : (40 : Int32).toInt = 40 := by decide
  have z1 : (-1 : Int32).toInt = -1 := by decide
  have z8 : (8 : Int32).toInt = 8 := by decide
  have y0 : (0 : Int64).toInt = 0 := by decide
  have y39 : (39 : Int64).toInt = 39 := by decide
  have y1 : (-1 : Int64).toInt = -1 := by decide
  have y8 : (8 : Int64).toInt = 8 := by decide
  unfold r_frame
  rcases h with ⟨e, g9, rfl, rfl⟩ | ⟨e, cm, kn, g, hcm, rfl, hkn, rfl, hd, hg, hL, rfl⟩
  · rw [if_neg (by
      rw [isM_iff, ← en, in_iff, in_iff, y0, y39, y1, y8]
      rintro ⟨u1, u2, u3⟩
      rcases g9 with g9 | g9
      · exact g9 u1
      · apply g9
        simp only [Int32.lt_iff_toInt_lt, Int32.le_iff_toInt_le, z0, z40, z1, z8]
        omega)]
    exact ⟨c, rfl, hI, rfl, hT, e⟩
  · have d1 : -1 ≤ d.toInt ∧ d.toInt ≤ 8 := by
      rcases hd with rfl | ⟨m, hm, rfl⟩
      · decide
      · rw [nI_toInt (by omega)]; omega
    rw [if_pos ⟨by rw [isM_iff, nI_toInt (by omega)]; omega, by rw [in_iff, y0, y39, nI_toInt (by omega)]; omega, by rw [in_iff, y1, y8]; exact d1⟩, nI_clamp (by omega), nI_clamp (by omega)]
    refine ⟨_, rfl, frC_inv hI hcm hkn hd, hL 0 0 (by omega), ?_, e⟩
    show Tie (frC c cm kn d g) (sA (sAs (sA x 7 (40 * cm + kn) d) 8 (fmA (x.2.1 8) (16 * (40 * cm + kn)) 0 16)) 9 cm 0)
    generalize hy : sA (sAs (sA x 7 (40 * cm + kn) d) 8 (fmA (x.2.1 8) (16 * (40 * cm + kn)) 0 16)) 9 cm 0 = y
    have y7 : y.2.1 7 = upd (x.2.1 7) (40 * cm + kn) d := by rw [← hy, sA_o (j := 7) (k := 9) (by decide), sAs_o (by decide), sA_k]
    have y8 : y.2.1 8 = fmA (x.2.1 8) (16 * (40 * cm + kn)) 0 16 := by rw [← hy, sA_o (j := 8) (k := 9) (by decide), sAs_k]
    have yO : ∀ j, j ≠ 7 → j ≠ 8 → j ≠ 9 → y.2.1 j = x.2.1 j := fun j a b c => by rw [← hy, sA_o c, sAs_o b, sA_o a]
    have r1 : ∀ u w j, (frC c cm kn d g).1 u w j = if u = cm + 2 ∧ w = 0 then (if j = 11 then 0 else c.1 u w j) else if u = cm + 2 ∧ w = 2 * kn + 8 ∧ j = 1 then d else c.1 u w j := by
      intro u w j
      show up3 (up3 c.1 (cm + 2) (2 * kn + 8) (upd (c.1 (cm + 2) (2 * kn + 8)) 1 d)) (cm + 2) 0 (upd (c.1 (cm + 2) 0) 11 0) u w j = _
      by_cases z : u = cm + 2 ∧ w = 0
      · obtain ⟨rfl, rfl⟩ := z
        rw [up3_self, if_pos ⟨rfl, rfl⟩]
        rfl
      · rw [up3_ne z, if_neg z]
        by_cases z2 : u = cm + 2 ∧ w = 2 * kn + 8
        · obtain ⟨rfl, rfl⟩ := z2
          rw [up3_self]
          by_cases z3 : j = 1
          · rw [if_pos ⟨rfl, rfl, z3⟩, z3, upd_same]
          · rw [if_neg (fun q => z3 q.2.2), upd_oth z3]
        · rw [up3_ne z2, if_neg (fun q => z2 ⟨q.1, q.2.1⟩)]
    have r2 : ∀ u w, (frC c cm kn d g).2.1 u w = if u = cm + 2 ∧ w = 2 * kn + 9 then g else c.2.1 u w := fun u w => rfl
    have r3 : ∀ m i, cF (frC c cm kn d g) m i = if m = cm ∧ i = kn then true else cF c m i := fun m i => rfl
    refine hT.chg (k0 := cm) hcm rfl (by rw [← hy]; rfl) (fun m hm => ?_) ?_
    · refine ⟨fun u => ⟨?_, ?_⟩, fun i => ?_, by rw [yO 2 (by decide) (by decide) (by decide)], by rw [yO 5 (by decide) (by decide) (by decide)], fun i hi => ⟨?_, fun j hj => ?_⟩⟩
      · funext j; rw [r1, if_neg (by omega), if_neg (by omega)]
      · rw [r2, if_neg (by omega)]
      · rw [r3, if_neg (by omega)]
      · rw [y7, upd_oth (by omega)]
      · rw [y8, fmA_at, if_neg (by omega)]
    · obtain ⟨q1, q2, q3⟩ := hT.2.1 cm hcm
      refine ⟨by rw [r1, yO 2 (by decide) (by decide) (by decide), if_pos ⟨rfl, rfl⟩]; exact q1, by rw [r1, yO 5 (by decide) (by decide) (by decide), if_pos ⟨rfl, rfl⟩]; exact q2, fun i hi => ?_⟩
      by_cases w : i = kn
      · subst w
        have rA : (frC c cm i d g).1 (cm + 2) (2 * i + 8) 1 = d := by rw [r1, if_neg (by omega), if_pos (by exact ⟨rfl, rfl, rfl⟩)]
        have rB : (frC c cm i d g).2.1 (cm + 2) (2 * i + 9) = g := by rw [r2, if_pos (by exact ⟨rfl, rfl⟩)]
        have rC : cF (frC c cm i d g) cm i = true := by rw [r3, if_pos (by exact ⟨rfl, rfl⟩)]
        rw [rA, rB, rC, y7, upd_same]
        refine ⟨fun _ => ⟨rfl, fun j hj => ?_⟩, fun z => by cases z⟩
        rw [y8, fmA_at, if_pos (by omega)]
        exact hg j hj
      · have rA : (frC c cm kn d g).1 (cm + 2) (2 * i + 8) 1 = c.1 (cm + 2) (2 * i + 8) 1 := by rw [r1, if_neg (by omega), if_neg (by omega)]
        have rB : (frC c cm kn d g).2.1 (cm + 2) (2 * i + 9) = c.2.1 (cm + 2) (2 * i + 9) := by rw [r2, if_neg (by omega)]
        have rC : cF (frC c cm kn d g) cm i = cF c cm i := by rw [r3, if_neg (by omega)]
        rw [rA, rB, rC, y7, upd_oth (by omega)]
        refine ⟨fun z => ⟨((q3 i hi).1 z).1, fun j hj => ?_⟩, (q3 i hi).2⟩
        rw [y8, fmA_at, if_neg (by omega)]
        exact ((q3 i hi).1 z).2 j hj
set_option maxHeartbeats 1000000 in
theorem tv_set {a b d f : Int32} (hI : CInv c) (hT : Tie c x) (hn : x.1 0 = nI n) (h8 : n ≤ 8) (h : sPost Γ L c a b d f r L1 M1) : ∃ c1, M1 = cM Γ L1 c1 ∧ CInv c1 ∧ L1 (nm 0 0) = L (nm 0 0) ∧ Tie c1 (r_set x n a b d f).2 ∧ r = (r_set x n a b d f).1 := by
  have en := hT.n hI hn h8
  have z0 : (0 : Int32).toInt = 0 := by decide
  have z40 : (40 : Int32).toInt = 40 := by decide
  have y0 : (0 : Int64).toInt = 0 := by decide
  have y39 : (39 : Int64).toInt = 39 := by decide
  obtain ⟨rfl, h⟩ := h
  unfold r_set
  rcases h with ⟨e, rfl, h⟩ | ⟨cm, kn, dn, pn, hcm, rfl, hkn, rfl, hf, hdn, ed, hpn, rfl, hkk, e, rfl⟩
  · rw [if_neg ?_]
    · exact ⟨c, rfl, hI, rfl, hT, e⟩
    rintro ⟨u1, u2, u3, u4, u5⟩
    rcases h with h | ⟨cm, hcm, rfl, h⟩
    · rw [isM_iff, ← en] at u1
      exact h u1
    · rw [nI_clamp (by omega)] at u3 u4
      rw [in_iff, y0, y39] at u2
      rcases h with (h | h | ⟨n0, hn0, rfl, h⟩) | ⟨n0, dn, hn0, rfl, hf, hdn, ed, h⟩
      · have := Int32.lt_iff_toInt_lt.mp h
        omega
      · have := Int32.le_iff_toInt_le.mp h
        omega
      · rw [nI_clamp (by omega)] at u3
        have q := (hT.2.1 cm hcm).2.2 n0 hn0
        have : x.2.1 7 (40 * cm + n0) = -1 := by
          cases hf : cF c cm n0 with
          | true => rw [← (q.1 hf).1]; exact h hf
          | false => exact q.2 hf
        rw [this] at u3
        exact u3 (by decide)
      · rw [nI_clamp (by omega)] at u3 u4
        have q := (((hT.2.1 cm hcm).2.2 n0 hn0).1 hf).1
        rw [ed] at q
        rw [← q] at u4
        rcases h with h | h
        · have e7 : (7 : Int32) + nI dn = nI (7 + dn) := nadd (a := 7) (b := dn) rfl rfl
          rw [e7, in_iff, y0, i64_toInt, nI_toInt (by omega)] at u4
          have e8 : (8 : Int32) + nI dn = nI (8 + dn) := nadd (a := 8) (b := dn) rfl rfl
          have : p_has (nI dn) d = true := by
            unfold p_has
            rw [e8]
            simp only [Bool.and_eq_true, Bool.not_eq_true', decide_eq_false_iff_not, decide_eq_true_eq, Int32.lt_iff_toInt_lt, z0, nI_toInt (show dn < 2 ^ 31 by omega), nI_toInt (show 8 + dn < 2 ^ 31 by omega)]
            omega
          rw [this] at h; cases h
        · rw [k_kind_eq, u5] at h; cases h
  · have q := ((hT.2.1 cm hcm).2.2 kn hkn).1 hf
    have q1 := q.1
    rw [ed] at q1
    have e7 : (7 : Int32) + nI dn = nI (7 + dn) := nadd (a := 7) (b := dn) rfl rfl
    rw [nI_clamp (show cm < 2 ^ 31 by have := hI.1; omega), nI_clamp (show kn < 2 ^ 31 by omega), nI_clamp (show pn < 2 ^ 31 by omega), ← q1, if_pos ⟨by rw [isM_iff, nI_toInt (by have := hI.1; omega)]; omega, by rw [in_iff, y0, y39, nI_toInt (by omega)]; omega, by rw [Int32.lt_iff_toInt_lt, nI_toInt (by omega), z0]; omega, by rw [e7, in_iff, y0, i64_toInt, nI_toInt (by omega), nI_toInt (by omega)]; omega, by rw [← k_kind_eq]; exact hkk⟩]
    have hp : pOK c (cm + 2) (2 * kn + 8) := pOF hcm hkn hf
    refine ⟨_, rfl, CInv.putP (CInv.right hI) hp (by show dn ≤ 8; exact hdn), rfl, ?_, e.trans (q.2 pn (by omega))⟩
    show Tie _ (sA (sA x 8 (16 * (40 * cm + kn) + pn) f) 9 cm 0)
    generalize hy : sA (sA x 8 (16 * (40 * cm + kn) + pn) f) 9 cm 0 = y
    have y8 : y.2.1 8 = upd (x.2.1 8) (16 * (40 * cm + kn) + pn) f := by rw [← hy, sA_o (j := 8) (k := 9) (by decide), sA_k]
    have yO : ∀ j, j ≠ 8 → j ≠ 9 → y.2.1 j = x.2.1 j := fun j a b => by rw [← hy, sA_o b, sA_o a]
    generalize hc : sP (tS c (cm + 2) 0 11 0) (cm + 2) (2 * kn + 8) (upd (c.2.1 (cm + 2) (2 * kn + 9)) pn f, dn) = c1
    have r1 : ∀ u w j, ¬ (u = cm + 2 ∧ w = 0 ∧ j = 11) → c1.1 u w j = c.1 u w j := by
      intro u w j z
      rw [← hc]
      by_cases z2 : u = cm + 2 ∧ w = 2 * kn + 8 ∧ j = 1
      · obtain ⟨rfl, rfl, rfl⟩ := z2
        rw [sP_dep, ed]
      · rw [sP_rdS z2, tS_rd z]
    have r2 : ∀ u w, c1.2.1 u w = if u = cm + 2 ∧ w = 2 * kn + 9 then upd (c.2.1 (cm + 2) (2 * kn + 9)) pn f else c.2.1 u w := fun u w => by rw [← hc]; rfl
    have r3 : cF c1 = cF c := by rw [← hc]; rfl
    refine hT.chg (k0 := cm) hcm (by rw [← hc]; rfl) (by rw [← hy]; rfl) (fun m hm => ?_) ?_
    · refine ⟨fun u => ⟨?_, ?_⟩, fun i => by rw [r3], by rw [yO 2 (by decide) (by decide)], by rw [yO 5 (by decide) (by decide)], fun i hi => ⟨by rw [yO 7 (by decide) (by decide)], fun j hj => ?_⟩⟩
      · funext j; exact r1 _ _ _ (by omega)
      · rw [r2, if_neg (by omega)]
      · rw [y8, upd_oth (by omega)]
    · obtain ⟨q1, q2, q3⟩ := hT.2.1 cm hcm
      refine ⟨by rw [r1 _ _ _ (by omega), yO 2 (by decide) (by decide)]; exact q1, by rw [r1 _ _ _ (by omega), yO 5 (by decide) (by decide)]; exact q2, fun i hi => ?_⟩
      rw [r1 _ _ _ (by omega), r3, yO 7 (by decide) (by decide), r2]
      refine ⟨fun z => ⟨((q3 i hi).1 z).1, fun j hj => ?_⟩, (q3 i hi).2⟩
      by_cases w : i = kn
      · subst w
        rw [if_pos ⟨rfl, rfl⟩, y8]
        by_cases w2 : j = pn
        · rw [w2, upd_same, upd_same]
        · rw [upd_oth w2, upd_oth (by omega)]
          exact ((q3 i hi).1 z).2 j hj
      · rw [if_neg (by omega), y8, upd_oth (by omega)]
        exact ((q3 i hi).1 z).2 j hj
end TV
theorem keep_judge {x : RS} {n : Nat} {h : Nat → Int32} {q : PL} {k : Nat} (hI : RInv x) (hnn : x.1 0 = nI n) (h8 : n ≤ 8) (hk : k < n) : (sH (sA (r_wbf k (oM x k) (hN x k) (hF x k) (hT x k) (hA x k) (pM x) (oM x k) 0 (r_forget x) (p_begin (pM x k) h, 0) true).2 9 k (bI (decide ((r_wbf k (oM x k) (hN x k) (hF x k) (hT x k) (hA x k) (pM x) (oM x k) 0 (r_forget x) (p_begin (pM x k) h, 0) true).1 < 0)))) q).1 0 = x.1 0 ∧ ∀ j, j < 9 → (sH (sA (r_wbf k (oM x k) (hN x k) (hF x k) (hT x k) (hA x k) (pM x) (oM x k) 0 (r_forget x) (p_begin (pM x k) h, 0) true).2 9 k (bI (decide ((r_wbf k (oM x k) (hN x k) (hF x k) (hT x k) (hA x k) (pM x) (oM x k) 0 (r_forget x) (p_begin (pM x k) h, 0) true).1 < 0)))) q).2.1 j = x.2.1 j := by
  obtain ⟨n2, g8, gnn, h3, h4, h5⟩ := id hI
  have hq := h3 k (by omega)
  have w := wk_wbf (k := k) (om := oM x k) (hn := hN x k) (hf := hF x k) (hto := hT x k) (hat := hA x k) (pm := pM x) hq.2.1 (by omega) (oM x k) 0 (r_forget x) (p_begin (pM x k) h, 0) true (by omega) (by show 0 ≤ 8; omega) hq.2.2.2.2.2.2
  generalize r_wbf k (oM x k) (hN x k) (hF x k) (hT x k) (hA x k) (pM x) (oM x k) 0 (r_forget x) (p_begin (pM x k) h, 0) true = R at w ⊢
  refine keep_jk ⟨fun j a b c d => ?_, fun j a b c => ?_, ?_⟩
  · rw [w.1 j a b]
    exact (jk_forget x).1 j a b c d
  · rw [w.2.1]
    exact (jk_forget x).2.1 j a b c
  · rw [w.2.2.1]
    exact (jk_forget x).2.2
