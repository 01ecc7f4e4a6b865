/-! JOINING: class and reference alike -/
def rowR (x : RS) (i : Nat) : Nat → Int32 := fun j => x.2.1 12 (16 * i + j)
def CA (c : CS) (x : RS) : Prop := ∀ i, i < 40 → c.1 1 (2 * i) 1 = x.2.1 11 i ∧ ∀ d, d ≤ 8 → x.2.1 11 i = nI d → okP (rowR x i, d) ∧ ∀ j, j < 8 + d → c.2.1 1 (2 * i + 1) j = rowR x i j
theorem okP_agr {q z : PL} (h : agr q z) (k : okP z) : okP q := ⟨fun j hj => by rw [h.2 j hj]; exact k.1 j (by rw [← h.1]; exact hj), k.2.cong (fun j hj => h.2 j (by omega))⟩
theorem kj_ok : ∀ x ∈ kList, ∀ y ∈ kList, r_isKind (r_joined x y) = true ∧ (r_joined x y = 2 ↔ x = 2 ∧ y = 2) ∧ (r_joined x y = 3 ↔ x = 3 ∧ y = 3) := by decide +kernel
theorem kj_self : ∀ x ∈ kList, r_joined x x = x := by decide +kernel
theorem okP_join {f g F : Nat → Int32} {d : Nat} (h1 : okP (f, d)) (h2 : okP (g, d)) (e : ∀ j, j < 8 + d → F j = r_joined (f j) (g j)) : okP (F, d) := by
  have K : ∀ j, j < 8 + d → r_isKind (F j) = true ∧ (F j = 2 ↔ f j = 2 ∧ g j = 2) ∧ (F j = 3 ↔ f j = 3 ∧ g j = 3) := by
    intro j hj
    rw [e j hj]
    exact kj_ok _ (kind_in (h1.1 j hj)) _ (kind_in (h2.1 j hj))
  refine ⟨fun j hj => (K j hj).1, fun j hj => ?_, fun z => h1.2.2.1 ((K 7 (by omega)).2.1.mp z).1, fun z => h1.2.2.2 ((K 0 (by omega)).2.2.mp z).1⟩
  show F j = 2 ↔ F (j + 1) = 3
  rw [(K j (by omega)).2.1, (K (j + 1) (by omega)).2.2]
  have a := h1.2.1 j hj
  have b := h2.2.1 j hj
  exact ⟨fun z => ⟨a.mp z.1, b.mp z.2⟩, fun z => ⟨a.mpr z.1, b.mpr z.2⟩⟩
theorem jn_12 {x : RS} {i : Nat} {q : PL} : ∀ m j, (r_jn x i q m).2.1 12 j = if 16 * i ≤ j ∧ j < 16 * i + m then r_joined (x.2.1 12 j) (q.1 (j - 16 * i)) else x.2.1 12 j
  | 0, j => by
    rw [if_neg (by omega)]
    rfl
  | m + 1, j => by
    have e : (r_jn x i q (m + 1)).2.1 12 = upd ((r_jn x i q m).2.1 12) (16 * i + m) (r_joined ((r_jn x i q m).2.1 12 (16 * i + m)) (q.1 m)) := sA_k _ _ _ _
    rw [e]
    by_cases w : j = 16 * i + m
    · rw [w, upd_same, jn_12 m (16 * i + m), if_neg (by omega), if_pos (by omega), show 16 * i + m - 16 * i = m by omega]
    · rw [upd_oth w, jn_12 m j]
      by_cases z : 16 * i ≤ j ∧ j < 16 * i + m
      · rw [if_pos z, if_pos (by omega)]
      · rw [if_neg z, if_neg (by omega)]
theorem jn_o {x : RS} {i : Nat} {q : PL} {k : Nat} (hk : k ≠ 12) : ∀ m, (r_jn x i q m).2.1 k = x.2.1 k
  | 0 => rfl
  | m + 1 => by
    have e : (r_jn x i q (m + 1)).2.1 k = (r_jn x i q m).2.1 k := sA_o hk
    rw [e, jn_o hk m]
theorem jn_s {x : RS} {i : Nat} {q : PL} {k : Nat} (hk : k ≠ 16) : ∀ m, (r_jn x i q m).1 k = x.1 k
  | 0 => rfl
  | m + 1 => by
    have e : (r_jn x i q (m + 1)).1 k = (r_jn x i q m).1 k := upd_oth hk
    rw [e, jn_s hk m]
theorem jn_2 {x : RS} {i : Nat} {q : PL} : ∀ m, (r_jn x i q m).2.2 = x.2.2
  | 0 => rfl
  | m + 1 => jn_2 m
def jrC (x : RS) (i : Nat) (q : PL) : Nat → Bool
  | 0 => false
  | m + 1 => jrC x i q m || !decide (r_joined (x.2.1 12 (16 * i + m)) (q.1 m) = x.2.1 12 (16 * i + m))
theorem or_bI (a b : Bool) : bI a ||| bI b = bI (a || b) := by cases a <;> cases b <;> decide
theorem jn_16 {x : RS} {i : Nat} {q : PL} {cb : Bool} (h : x.1 16 = bI cb) : ∀ m, (r_jn x i q m).1 16 = bI (cb || jrC x i q m)
  | 0 => by
    show x.1 16 = bI (cb || false)
    rw [h, Bool.or_false]
  | m + 1 => by
    have e : (r_jn x i q (m + 1)).1 16 = (r_jn x i q m).1 16 ||| bI (!decide (r_joined ((r_jn x i q m).2.1 12 (16 * i + m)) (q.1 m) = (r_jn x i q m).2.1 12 (16 * i + m))) := sS_k (r_jn x i q m) 16 _
    rw [e, jn_16 h m, or_bI, jn_12 m (16 * i + m), if_neg (by omega)]
    show bI ((cb || jrC x i q m) || _) = bI (cb || (jrC x i q m || _))
    rw [Bool.or_assoc]
theorem jC_eq {x : RS} {i : Nat} {q : PL} {h g : Nat → Int32} : ∀ m, (∀ j, j < m → h j = x.2.1 12 (16 * i + j) ∧ k_join (h j) (g j) = r_joined (x.2.1 12 (16 * i + j)) (q.1 j)) → jnC h g m = jrC x i q m
  | 0, _ => rfl
  | m + 1, e => by
    show (jnC h g m || !decide (k_join (h m) (g m) = h m)) = (jrC x i q m || !decide (r_joined (x.2.1 12 (16 * i + m)) (q.1 m) = x.2.1 12 (16 * i + m)))
    rw [jC_eq m (fun j hj => e j (by omega)), (e m (by omega)).2, (e m (by omega)).1]
theorem tS_ne {c : CS} {a b k a' b' : Nat} {v : Int32} (h : ¬ (a' = a ∧ b' = b)) : (tS c a b k v).1 a' b' = c.1 a' b' := by
  show up3 c.1 a b (upd (c.1 a b) k v) a' b' = _
  rw [up3_ne h]
theorem sP_ne1 {c : CS} {a b a' b' : Nat} {q : PL} (h : ¬ (a' = a ∧ b' = b)) : (sP c a b q).1 a' b' = c.1 a' b' := by
  show up3 c.1 a b (upd (c.1 a b) 1 (nI q.2)) a' b' = _
  rw [up3_ne h]
theorem sP_ne2 {c : CS} {a b a' b' : Nat} {q : PL} (h : ¬ (a' = a ∧ b' = b + 1)) : (sP c a b q).2.1 a' b' = c.2.1 a' b' := by
  show up3 c.2.1 a (b + 1) q.1 a' b' = _
  rw [up3_ne h]
/-- what of the class is not touched by what arrives -/
def kA (c c1 : CS) : Prop := ∀ b, b ≠ 3 → c1.1 0 b = c.1 0 b ∧ c1.2.1 0 b = c.2.1 0 b
theorem kA.rf {c : CS} : kA c c := fun _ _ => ⟨rfl, rfl⟩
theorem kA.tr {c c1 c2 : CS} (h : kA c c1) (k : kA c1 c2) : kA c c2 := fun b hb => ⟨(k b hb).1.trans (h b hb).1, (k b hb).2.trans (h b hb).2⟩
theorem kA_nw {c : CS} {kn u v : Nat} : kA c (c_nw c kn u v) := by
  intro b hb
  refine ⟨?_, ?_⟩
  · unfold c_nw
    exact (tS_ne (by omega)).trans (tS_ne (by omega))
  · show up3 c.2.1 1 (2 * kn + 1) (cpy16 (c.2.1 u (v + 1)) (c.2.1 1 (2 * kn + 1))) 0 b = _
    rw [up3_ne (by omega)]
theorem kA_jn {c : CS} {kn u v d : Nat} : kA c (c_jn c kn u v d) := by
  intro b hb
  refine ⟨?_, ?_⟩
  · unfold c_jn
    exact sP_ne1 (by omega)
  · unfold c_jn
    exact sP_ne2 (by omega)
theorem kA_34 {c : CS} {w : Int32} : kA c (tS c 0 3 4 w) := by
  intro b hb
  refine ⟨?_, rfl⟩
  exact tS_ne (by omega)
set_option maxHeartbeats 1000000 in
theorem new_CA {c : CS} {x : RS} {kn v d : Nat} {z : PL} (hC : CA c x) (hkn : kn < 40) (hd : d ≤ 8) (ed : c.1 0 v 1 = nI d) (hz : agr (c.2.1 0 (v + 1), d) z) (ok : okP z) : CA (c_nw c kn 0 v) (sS (r_sees x kn z) 16 1) := by
  have ez : d = z.2 := hz.1
  intro i hi
  have r1 : (sS (r_sees x kn z) 16 1).2.1 11 = upd (x.2.1 11) kn (nI z.2) := sees_11
  have r2 : (sS (r_sees x kn z) 16 1).2.1 12 = cpA (x.2.1 12) (16 * kn) z.1 16 := sees_12
  have c1r : (c_nw c kn 0 v).1 1 (2 * i) 1 = if i = kn then c.1 0 v 1 else c.1 1 (2 * i) 1 := by
    unfold c_nw
    rw [tS_rd (by omega)]
    by_cases w : i = kn
    · rw [w, tS_self, if_pos rfl]
    · exact (tS_rd (by omega)).trans (if_neg w).symm
  have c2r : (c_nw c kn 0 v).2.1 1 (2 * i + 1) = if i = kn then cpy16 (c.2.1 0 (v + 1)) (c.2.1 1 (2 * kn + 1)) else c.2.1 1 (2 * i + 1) := by
    show up3 c.2.1 1 (2 * kn + 1) (cpy16 (c.2.1 0 (v + 1)) (c.2.1 1 (2 * kn + 1))) 1 (2 * i + 1) = _
    by_cases w : i = kn
    · rw [w, up3_self, if_pos rfl]
    · rw [up3_ne (by omega), if_neg w]
  unfold rowR
  rw [c1r, c2r, r1, r2]
  by_cases w : i = kn
  · subst w
    rw [if_pos rfl, if_pos rfl, upd_same, ed, ez]
    refine ⟨rfl, fun d1 hd1 e1 => ?_⟩
    have : z.2 = d1 := nI_inj (by omega) (by omega) e1
    subst this
    have row : ∀ j, j < 16 → cpA (x.2.1 12) (16 * i) z.1 16 (16 * i + j) = z.1 j := fun j hj => cpA_in hj
    refine ⟨⟨fun j hj => ?_, ok.2.cong (fun j hj => row j (by omega))⟩, fun j hj => ?_⟩
    · have hj : j < 8 + z.2 := hj
      show r_isKind (cpA (x.2.1 12) (16 * i) z.1 16 (16 * i + j)) = true
      rw [row j (by omega)]
      exact ok.1 j hj
    · rw [cpy16_at (by omega), row j (by omega)]
      exact hz.2 j (by rw [hz.1]; exact hj)
  · rw [if_neg w, if_neg w, upd_oth w]
    obtain ⟨a1, a2⟩ := hC i hi
    refine ⟨a1, fun d1 hd1 e1 => ?_⟩
    obtain ⟨b1, b2⟩ := a2 d1 hd1 e1
    have row : ∀ j, j < 16 → cpA (x.2.1 12) (16 * kn) z.1 16 (16 * i + j) = x.2.1 12 (16 * i + j) := fun j hj => cpA_out (by omega)
    refine ⟨⟨fun j hj => ?_, b1.2.cong (fun j hj => row j (by omega))⟩, fun j hj => ?_⟩
    · have hj : j < 8 + d1 := hj
      show r_isKind (cpA (x.2.1 12) (16 * kn) z.1 16 (16 * i + j)) = true
      rw [row j (by omega)]
      exact b1.1 j hj
    · rw [row j (by omega)]
      exact b2 j hj
set_option maxHeartbeats 1000000 in
theorem comes_CA {c c1 : CS} {x : RS} {om v d : Nat} {k r : Int32} {z : PL} {cb : Bool} (hC : CA c x) (h4 : c.1 0 3 4 = x.1 16) (hcb : x.1 16 = bI cb) (hd : d ≤ 8) (ed : c.1 0 v 1 = nI d) (hz : agr (c.2.1 0 (v + 1), d) z) (ok : okP z) (ho : om ≤ 40) (hA : ArF c om k 0 v r c1) : r = bI (r_comes x om k z).1 ∧ kA c c1 ∧ ((r_comes x om k z).1 = true → CA c1 (r_comes x om k z).2 ∧ c1.1 0 3 4 = (r_comes x om k z).2.1 16 ∧ ∃ c2, (r_comes x om k z).2.1 16 = bI c2) := by
  have ez : d = z.2 := hz.1
  rcases hA with ⟨rfl, rfl, h⟩ | ⟨rfl, kn, hkn, rfl, h⟩
  · have e : (r_comes x om k z) = (false, x) := by
      unfold r_comes
      rcases h with h | ⟨kn, hkn, rfl, h1, h2⟩
      · rw [if_neg (by rw [h]; decide)]
      · rw [if_pos (by rw [isM_iff, nI_toInt (by omega)]; omega), nI_clamp (by omega), ← (hC kn (by omega)).1, if_neg h1, if_neg (by rw [← ez, ← ed]; exact h2)]
    rw [e]
    exact ⟨rfl, kA.rf, fun w => by cases w⟩
  · have im : r_isM om (nI kn) = true := by rw [isM_iff, nI_toInt (by omega)]; omega
    have cn := (hC kn (by omega)).1
    rcases h with ⟨h1, rfl⟩ | ⟨d0, hd0, e0, e1, h⟩
    · have e : (r_comes x om (nI kn) z) = (true, sS (r_sees x kn z) 16 1) := by
        unfold r_comes
        rw [if_pos im, nI_clamp (by omega), ← cn, if_pos h1]
      rw [e]
      refine ⟨rfl, kA_nw, fun _ => ⟨new_CA hC (by omega) hd ed hz ok, ?_, true, sS_k (r_sees x kn z) 16 1⟩⟩
      · show (c_nw c kn 0 v).1 0 3 4 = (sS (r_sees x kn z) 16 1).1 16
        rw [sS_k]
        unfold c_nw
        exact tS_self
    · have ed0 : d0 = d := nI_inj (by omega) (by omega) (e0.symm.trans (e1.trans ed))
      subst ed0
      have ex : x.2.1 11 kn = nI d0 := cn.symm.trans e0
      have e : (r_comes x om (nI kn) z) = (true, r_jn x kn z (8 + z.2)) := by
        unfold r_comes
        rw [if_pos im, nI_clamp (by omega), ex, if_neg (nI_n0 (by omega)), if_pos (by rw [ez])]
      rw [e, ← ez]
      obtain ⟨b1, b2⟩ := (hC kn (by omega)).2 d0 hd ex
      have jk9 : ∀ j, j < 8 + d0 → c.2.1 1 (2 * kn + 1) j = x.2.1 12 (16 * kn + j) ∧ k_join (c.2.1 1 (2 * kn + 1) j) (c.2.1 0 (v + 1) j) = r_joined (x.2.1 12 (16 * kn + j)) (z.1 j) := by
        intro j hj
        refine ⟨b2 j hj, ?_⟩
        have e3 : c.2.1 0 (v + 1) j = z.1 j := hz.2 j hj
        rw [b2 j hj, e3]
        exact k_join_eq (b1.1 j hj) (ok.1 j (by rw [← ez]; exact hj))
      have jc := jC_eq (x := x) (i := kn) (q := z) (h := c.2.1 1 (2 * kn + 1)) (g := c.2.1 0 (v + 1)) (8 + d0) jk9
      have main : ∀ c0 : CS, (∀ i, c0.1 1 (2 * i) 1 = c.1 1 (2 * i) 1) → c0.2.1 = c.2.1 → CA (c_jn c0 kn 0 v d0) (r_jn x kn z (8 + d0)) := by
        intro c0 g1 g2 i hi
        have c1r : (c_jn c0 kn 0 v d0).1 1 (2 * i) 1 = c.1 1 (2 * i) 1 := by
          show up3 c0.1 1 (2 * kn) (upd (c0.1 1 (2 * kn)) 1 (nI d0)) 1 (2 * i) 1 = _
          by_cases w : i = kn
          · rw [w, up3_self, upd_same, e0]
          · rw [up3_ne (by omega), g1]
        have c2r : (c_jn c0 kn 0 v d0).2.1 1 (2 * i + 1) = if i = kn then jnF (c.2.1 1 (2 * kn + 1)) (c.2.1 0 (v + 1)) (8 + d0) else c.2.1 1 (2 * i + 1) := by
          show up3 c0.2.1 1 (2 * kn + 1) (jnF (c0.2.1 1 (2 * kn + 1)) (c0.2.1 0 (v + 1)) (8 + d0)) 1 (2 * i + 1) = _
          rw [g2]
          by_cases w : i = kn
          · rw [w, up3_self, if_pos rfl]
          · rw [up3_ne (by omega), if_neg w]
        unfold rowR
        rw [c1r, c2r, jn_o (by decide)]
        obtain ⟨a1, a2⟩ := hC i hi
        refine ⟨a1, fun d1 hd1 q1 => ?_⟩
        by_cases w : i = kn
        · subst w
          have : d0 = d1 := nI_inj (by omega) (by omega) (ex.symm.trans q1)
          subst this
          rw [if_pos rfl]
          have row : ∀ j, j < 8 + d0 → (r_jn x i z (8 + d0)).2.1 12 (16 * i + j) = r_joined (x.2.1 12 (16 * i + j)) (z.1 j) := by
            intro j hj
            rw [jn_12, if_pos (by omega), show 16 * i + j - 16 * i = j by omega]
          refine ⟨okP_join b1 (g := z.1) (by rw [ez]; exact ok) row, fun j hj => ?_⟩
          rw [row j hj]
          show (if j < 8 + d0 then _ else _) = _
          rw [if_pos hj]
          exact (jk9 j hj).2
        · rw [if_neg w]
          obtain ⟨f1, f2⟩ := a2 d1 hd1 q1
          have row : ∀ j, j < 16 → (r_jn x kn z (8 + d0)).2.1 12 (16 * i + j) = x.2.1 12 (16 * i + j) := by
            intro j hj
            rw [jn_12, if_neg (by omega)]
          refine ⟨⟨fun j hj => ?_, f1.2.cong (fun j hj => row j (by omega))⟩, fun j hj => ?_⟩
          · have hj : j < 8 + d1 := hj
            show r_isKind ((r_jn x kn z (8 + d0)).2.1 12 (16 * i + j)) = true
            rw [row j (by omega)]
            exact f1.1 j hj
          · rw [row j (by omega)]
            exact f2 j hj
      have j16 := jn_16 (x := x) (i := kn) (q := z) hcb (8 + d0)
      rcases h with ⟨h1, rfl⟩ | ⟨h1, rfl⟩
      · refine ⟨rfl, kA_jn, fun _ => ⟨main c (fun _ => rfl) rfl, ?_, _, j16⟩⟩
        rw [j16, ← jc, h1, Bool.or_false, ← hcb]
        unfold c_jn
        exact (sP_rdS (by omega)).trans h4
      · refine ⟨rfl, kA_34.tr kA_jn, fun _ => ⟨main _ (fun i => tS_rd (by omega)) rfl, ?_, _, j16⟩⟩
        rw [j16, ← jc, h1, Bool.or_true]
        unfold c_jn
        exact (sP_rdS (by omega)).trans tS_self
