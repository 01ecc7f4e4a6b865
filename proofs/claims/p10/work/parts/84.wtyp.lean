/-! RIGHT BY FRAMES: a typing -/
theorem allgo_at {h f : Nat → Int32} {p : Nat} : ∀ {n : Nat}, p_allgo h f n = true → p < n → r_goes (h p) (f p) = true
  | 0, _, hp => by omega
  | n + 1, h1, hp => by
    have h2 := Bool.and_eq_true_iff.mp h1
    by_cases w : p = n
    · subst w; exact h2.2
    · exact allgo_at h2.1 (by omega)
theorem hfits_at {x : RS} {k om : Nat} {hf hto hat : Nat → Nat} {ii g : Nat} {h : Nat → Int32} : ∀ {n : Nat}, p_hfits x k om hf hto hat ii h n = true → g < n → p_hok x k om hf hto hat ii h g = true
  | 0, _, hp => by omega
  | n + 1, h1, hp => by
    have h2 := Bool.and_eq_true_iff.mp h1
    by_cases w : g = n
    · subst w; exact h2.2
    · exact hfits_at h2.1 (by omega)
/-- the FRAME told at j stands at j -/
def fAt (y : RS) (k j : Nat) : Prop := ¬ y.2.1 7 (40 * k + j) < 0 → y.2.1 11 j = y.2.1 7 (40 * k + j) ∧ ∀ p, p < 16 → y.2.1 12 (16 * j + p) = y.2.1 8 (16 * (40 * k + j) + p)
/-- an instruction passed by FRAMES -/
def Gf (y : RS) (k om hn : Nat) (hf hto hat pm : Nat → Nat) (j : Nat) : Prop := ∃ (h : Nat → Int32) (d : Nat) (z : PL), d ≤ 8 ∧ y.2.1 11 j = nI d ∧ (∀ p, p < 16 → h p = y.2.1 12 (16 * j + p)) ∧ r_code y k om pm j (h, d) = some z ∧ (r_last (y.2.1 3 (40 * k + j)) = false → gA y om (nI (j + 1)) z) ∧ r_lead y k j z = true ∧ p_hfits y k om hf hto hat j h hn = true
/-- only what the places came to differs, and there nothing below i -/
def sm (y y' : RS) (i : Nat) : Prop := (∀ k, k ≠ 11 → k ≠ 12 → y'.2.1 k = y.2.1 k) ∧ y'.1 = y.1 ∧ y'.2.2 = y.2.2 ∧ ∀ j, j < i → y'.2.1 11 j = y.2.1 11 j ∧ ∀ p, p < 16 → y'.2.1 12 (16 * j + p) = y.2.1 12 (16 * j + p)
theorem sm.rf {y : RS} {i : Nat} : sm y y i := ⟨fun _ _ _ => rfl, rfl, rfl, fun _ _ => ⟨rfl, fun _ _ => rfl⟩⟩
theorem sm_see {y : RS} {i : Nat} {q : PL} : sm y (r_sees y i q) i := by
  refine ⟨fun k a b => sees_o a b, rfl, rfl, fun j hj => ⟨?_, fun p hp => ?_⟩⟩
  · rw [sees_11, upd_oth (by omega)]
  · rw [sees_12, cpA_out (by omega)]
theorem sm.tr {x y z : RS} {i j : Nat} (h : sm x y i) (k : sm y z j) (hij : i ≤ j) : sm x z i := by
  refine ⟨fun q a b => (k.1 q a b).trans (h.1 q a b), k.2.1.trans h.2.1, k.2.2.1.trans h.2.2.1, fun l hl => ?_⟩
  obtain ⟨a1, a2⟩ := h.2.2.2 l hl
  obtain ⟨b1, b2⟩ := k.2.2.2 l (by omega)
  exact ⟨b1.trans a1, fun p hp => (b2 p hp).trans (a2 p hp)⟩
theorem sm_code {y y' : RS} {i k om j : Nat} {pm : Nat → Nat} {q : PL} (h : sm y y' i) : r_code y' k om pm j q = r_code y k om pm j q := by
  unfold r_code
  rw [h.1 3 (by decide) (by decide), h.2.2.1]
theorem sm_gtf {y y' : RS} {i f : Nat} {q : PL} (h : sm y y' i) : p_gtf y' f q = p_gtf y f q := by
  unfold p_gtf
  rw [h.1 7 (by decide) (by decide), h.1 8 (by decide) (by decide)]
theorem sm_lead {y y' : RS} {i k j : Nat} {q : PL} (h : sm y y' i) : r_lead y' k j q = r_lead y k j q := by
  unfold r_lead
  rw [h.1 3 (by decide) (by decide), h.2.2.1, sm_gtf h]
theorem sm_hok {y y' : RS} {i k om ii g : Nat} {hf hto hat : Nat → Nat} {h : Nat → Int32} (s : sm y y' i) : p_hok y' k om hf hto hat ii h g = p_hok y k om hf hto hat ii h g := by
  unfold p_hok p_b0
  rw [s.1 7 (by decide) (by decide), s.1 8 (by decide) (by decide)]
theorem sm_hfits {y y' : RS} {i k om ii : Nat} {hf hto hat : Nat → Nat} {h : Nat → Int32} (s : sm y y' i) : ∀ n, p_hfits y' k om hf hto hat ii h n = p_hfits y k om hf hto hat ii h n
  | 0 => rfl
  | n + 1 => by
    show (p_hfits y' k om hf hto hat ii h n && p_hok y' k om hf hto hat ii h n) = _
    rw [sm_hfits s n, sm_hok s]
    rfl
/-- the rest of the way, once q stands at i -/
theorem wtail {k om hn : Nat} {hf hto hat pm : Nat → Nat} {rec : RS → PL → Bool → Int32 × RS} {i : Nat} {y y' : RS} {q : PL} {w : Int32} (ho : om ≤ 40) (hi : i < om) (hq : q.2 ≤ 8) (hfr : ¬ y.2.1 7 (40 * k + i) < 0 → nI q.2 = y.2.1 7 (40 * k + i) ∧ ∀ p, p < 16 → q.1 p = y.2.1 8 (16 * (40 * k + i) + p))
    (hrec : ∀ z c, z.2 ≤ 8 → rec (r_sees y i q) z c = (w, y') → sm (r_sees y i q) y' (i + 1) ∧ (c = true → gA y' om (nI (i + 1)) z) ∧ ∀ j, i + 1 ≤ j → j < om → fAt y' k j ∧ Gf y' k om hn hf hto hat pm j)
    (h : r_tail k om hn hf hto hat pm rec i y q = (w, y')) (hw : w < 0) : sm y y' i ∧ (y'.2.1 11 i = nI q.2 ∧ ∀ p, p < 16 → y'.2.1 12 (16 * i + p) = q.1 p) ∧ ∀ j, i ≤ j → j < om → fAt y' k j ∧ Gf y' k om hn hf hto hat pm j := by
  have bad : ∀ z, (nI i, z) = (w, y') → False := fun z e => by
    have e1 : nI i = w := congrArg Prod.fst e
    rw [← e1] at hw
    exact nI_n0 (by omega) hw
  unfold r_tail at h
  by_cases c1 : p_hfits (r_sees y i q) k om hf hto hat i q.1 hn = true
  · rw [if_pos c1] at h
    cases hc : r_code (r_sees y i q) k om pm i q with
    | none => rw [hc] at h; exact (bad _ h).elim
    | some z =>
      rw [hc] at h
      have h : (if r_lead (r_sees y i q) k i z = true then rec (r_sees y i q) z (!r_last ((r_sees y i q).2.1 3 (40 * k + i))) else (nI i, r_sees y i q)) = (w, y') := h
      by_cases c2 : r_lead (r_sees y i q) k i z = true
      · rw [if_pos c2] at h
        have z8 : z.2 ≤ 8 := p_op_le hc hq
        obtain ⟨s1, s2, s3⟩ := hrec _ _ z8 h
        have st : sm y y' i := sm_see.tr s1 (by omega)
        obtain ⟨k1, k2⟩ := s1.2.2.2 i (by omega)
        have a11 : y'.2.1 11 i = nI q.2 := by rw [k1, sees_11, upd_same]
        have a12 : ∀ p, p < 16 → y'.2.1 12 (16 * i + p) = q.1 p := fun p hp => by rw [k2 p hp, sees_12, cpA_in hp]
        refine ⟨st, ⟨a11, a12⟩, fun j hj1 hj2 => ?_⟩
        by_cases wj : j = i
        · subst wj
          refine ⟨fun hn0 => ?_, q.1, q.2, z, hq, a11, fun p hp => (a12 p hp).symm, by rw [sm_code s1]; exact hc, fun hl => s2 ?_, by rw [sm_lead s1]; exact c2, by rw [sm_hfits s1]; exact c1⟩
          · rw [st.1 7 (by decide) (by decide)] at hn0 ⊢
            obtain ⟨f1, f2⟩ := hfr hn0
            rw [st.1 8 (by decide) (by decide)]
            exact ⟨a11.trans f1, fun p hp => (a12 p hp).trans (f2 p hp)⟩
          · rw [s1.1 3 (by decide) (by decide)] at hl
            rw [hl]; rfl
        · exact s3 j (by omega) hj2
      · rw [if_neg c2] at h; exact (bad _ h).elim
  · rw [if_neg c1] at h; exact (bad _ h).elim
theorem wbf_ind {k om hn : Nat} {hf hto hat pm : Nat → Nat} {w : Int32} {y' : RS} (ho : om ≤ 40) (hw : w < 0) : ∀ (u i : Nat) (y : RS) (q : PL) (c : Bool), i + u = om → q.2 ≤ 8 → (∀ j, j < 320 → r_dp (y.2.1 7 j)) → k < 8 → r_wbf k om hn hf hto hat pm u i y q c = (w, y') → sm y y' i ∧ (c = true → gA y' om (nI i) q) ∧ ∀ j, i ≤ j → j < om → fAt y' k j ∧ Gf y' k om hn hf hto hat pm j
  | 0, i, y, q, c, hu, hq, hd, hk, h => by
    have h : (if c = true then nI om else -1, y) = (w, y') := h
    have e2 : y = y' := congrArg Prod.snd h
    have e1 : (if c = true then nI om else -1) = w := congrArg Prod.fst h
    subst e2
    refine ⟨sm.rf, fun hc => ?_, fun j h1 h2 => by omega⟩
    rw [if_pos hc] at e1
    rw [← e1] at hw
    exact (nI_n0 (by omega) hw).elim
  | u + 1, i, y, q, c, hu, hq, hd, hk, h => by
    have bad : ∀ z, (nI i, z) = (w, y') → False := fun z e => by
      have e1 : nI i = w := congrArg Prod.fst e
      rw [← e1] at hw
      exact nI_n0 (by omega) hw
    unfold r_wbf at h
    by_cases c1 : y.2.1 7 (40 * k + i) < 0
    · rw [if_pos c1] at h
      by_cases c2 : c = true
      · rw [if_pos c2] at h
        obtain ⟨s, ⟨a, b⟩, t⟩ := wtail (y' := y') (w := w) ho (by omega) hq (fun hn0 => absurd c1 hn0) (fun z c hz hr => wbf_ind ho hw u (i + 1) (r_sees y i q) z c (by omega) hz (fun j hj => by rw [sees_o (by decide) (by decide)]; exact hd j hj) hk hr) h hw
        exact ⟨s, fun _ => ⟨i, by omega, rfl, a, fun p hp => by rw [b p (by omega)]; exact vle_rf _⟩, t⟩
      · rw [if_neg c2] at h; exact (bad _ h).elim
    · rw [if_neg c1] at h
      obtain ⟨dd, d8, hdd⟩ := r_dp_nat (hd (40 * k + i) (by omega)) c1
      have hcl : (y.2.1 7 (40 * k + i)).toNatClampNeg = dd := by rw [hdd]; exact nI_clamp (by omega)
      have hfr : ∀ p, p < 16 → p_fr y (40 * k + i) q.1 p = y.2.1 8 (16 * (40 * k + i) + p) := by
        intro p hp
        unfold p_fr
        have e := cpA_in (f := q.1) (g := fun j => y.2.1 8 (16 * (40 * k + i) + j)) (o := 0) (p := p) (n := 16) hp
        rw [Nat.zero_add] at e
        exact e
      by_cases c2 : c = true ∧ p_gtf y (40 * k + i) q = false
      · rw [if_pos c2] at h; exact (bad _ h).elim
      · rw [if_neg c2, hcl] at h
        obtain ⟨s, ⟨a, b⟩, t⟩ := wtail (y' := y') (w := w) (q := (p_fr y (40 * k + i) q.1, dd)) ho (by omega) d8 (fun _ => ⟨hdd.symm, hfr⟩) (fun z c hz hr => wbf_ind ho hw u (i + 1) _ z c (by omega) hz (fun j hj => by rw [sees_o (by decide) (by decide)]; exact hd j hj) hk hr) h hw
        refine ⟨s, fun hc => ?_, t⟩
        have hg : p_gtf y (40 * k + i) q = true := by
          cases hg : p_gtf y (40 * k + i) q with
          | true => rfl
          | false => exact absurd ⟨hc, hg⟩ c2
        unfold p_gtf at hg
        obtain ⟨g1, g2⟩ := Bool.and_eq_true_iff.mp hg
        have g1 := of_decide_eq_true g1
        have a : y'.2.1 11 i = nI dd := a
        refine ⟨i, by omega, rfl, by rw [a, ← hdd]; exact g1, fun p hp => ?_⟩
        rw [b p (by omega)]
        show vle _ (vc (p_fr y (40 * k + i) q.1 p)) = true
        rw [hfr p (by omega)]
        exact vc_goes (allgo_at (f := fun j => y.2.1 8 (16 * (40 * k + i) + j)) g2 hp)
theorem nI_inj {a b : Nat} (ha : a < 1000) (hb : b < 1000) (h : nI a = nI b) : a = b := by
  have := congrArg Int32.toInt h
  rw [nI_toInt (by omega), nI_toInt (by omega)] at this
  omega
theorem Gf_Gd {y : RS} {k om hn : Nat} {hf hto hat pm : Nat → Nat} {j : Nat} (ho : om ≤ 40) (hA_ : ∀ j, j < om → fAt y k j) (hF_ : Gf y k om hn hf hto hat pm j) : Gd y k om hn hf hto hat pm j := by
  obtain ⟨h, d, z, c1, c2, c3, c4, c5, c6, c7⟩ := hF_
  refine ⟨h, d, z, c1, c2, c3, c4, c5, fun hl => ?_, fun g a b c => ?_⟩
  · obtain ⟨t, ht, hv⟩ := p_op_lead (by omega) hl c4
    have z8 : z.2 ≤ 8 := p_op_le c4 c1
    unfold r_lead at c6
    rw [hl] at c6
    have c6 : p_gtf y (40 * k + p_ix (y.2.2 4 (40 * k + j))) z = true := by simpa using c6
    have hix : p_ix (y.2.2 4 (40 * k + j)) = t := by unfold p_ix; rw [hv, lN_i]; exact nI_clamp (by omega)
    rw [hix] at c6
    unfold p_gtf at c6
    obtain ⟨g1, g2⟩ := Bool.and_eq_true_iff.mp c6
    have g1 := of_decide_eq_true g1
    obtain ⟨f1, f2⟩ := hA_ t ht (by rw [g1]; exact nI_n0 (by omega))
    refine ⟨t, ht, by rw [hv, lN_i], f1.trans g1, fun p hp => ?_⟩
    rw [f2 p (by omega)]
    exact vc_goes (allgo_at (f := fun j => y.2.1 8 (16 * (40 * k + t) + j)) g2 hp)
  · have hk := hfits_at c7 a
    unfold p_hok p_b0 at hk
    rw [decide_eq_true (And.intro b c)] at hk
    have hk : ((decide (hat g < om) && (decide (y.2.1 7 (40 * k + hat g) = 1) && r_goes 1 (y.2.1 8 (16 * (40 * k + hat g) + 8)))) && p_allgo h (fun j => y.2.1 8 (16 * (40 * k + hat g) + j)) 8) = true := by simpa using hk
    obtain ⟨k1, k2⟩ := Bool.and_eq_true_iff.mp hk
    obtain ⟨k3, k4⟩ := Bool.and_eq_true_iff.mp k1
    obtain ⟨k5, k6⟩ := Bool.and_eq_true_iff.mp k4
    have k3 := of_decide_eq_true k3
    have k5 := of_decide_eq_true k5
    obtain ⟨f1, f2⟩ := hA_ (hat g) k3 (by rw [k5]; decide)
    refine ⟨hat g, k3, rfl, f1.trans k5, fun p hp => ?_⟩
    have hp : p < 8 + 1 := hp
    rw [f2 p (by omega)]
    show vle (vc (upd h 8 1 p)) _ = true
    by_cases w : p = 8
    · subst w
      rw [upd_same]
      exact vc_goes k6
    · rw [upd_oth w]
      exact vc_goes (allgo_at (f := fun j => y.2.1 8 (16 * (40 * k + hat g) + j)) k2 (by omega))
theorem typ_wbf {x y' : RS} {k n : Nat} {h : Nat → Int32} {w : Int32} (hk : k < 8) (hq : rq x k) (hr : r_wbf k (oM x k) (hN x k) (hF x k) (hT x k) (hA x k) (pM x) (oM x k) 0 (r_forget x) (p_begin n h, 0) true = (w, y')) (hw : w < 0) : sm (r_forget x) y' 0 ∧ Tk y' k (tau y') := by
  have ho := hq.2.1
  obtain ⟨s, e, t⟩ := wbf_ind ho hw (oM x k) 0 (r_forget x) (p_begin n h, 0) true (by omega) (by show 0 ≤ 8; omega) hq.2.2.2.2.2.2 hk hr
  obtain ⟨m, m1, m2, m3, m4⟩ := e rfl
  have hm : m = 0 := (nI_inj (by omega) (by omega) m2).symm
  subst hm
  have x2 : y'.2.1 2 = x.2.1 2 := s.1 2 (by decide) (by decide)
  have x5 : y'.2.1 5 = x.2.1 5 := s.1 5 (by decide) (by decide)
  have x6 : y'.2.1 6 = x.2.1 6 := s.1 6 (by decide) (by decide)
  have x1 : y'.2.1 1 = x.2.1 1 := s.1 1 (by decide) (by decide)
  have eo : oM y' k = oM x k := by unfold oM; rw [x2]
  have en : hN y' k = hN x k := by unfold hN; rw [x5]
  have ef : hF y' k = hF x k := by unfold hF; rw [x6]
  have et : hT y' k = hT x k := by unfold hT; rw [x6]
  have ea : hA y' k = hA x k := by unfold hA; rw [x6]
  have ep : pM y' = pM x := by unfold pM; rw [x1]
  refine ⟨s, typ_of (by rw [eo]; exact m1) m3 (fun p hp => ?_) (fun i hi _ => ?_)⟩
  · have := m4 p (by show p < 8 + 0; omega)
    rw [begin_vc (by omega)] at this
    exact vle_z this
  · rw [eo] at hi
    rw [eo, en, ef, et, ea, ep]
    exact Gf_Gd ho (fun j hj => (t j (Nat.zero_le _) hj).1) (t i (Nat.zero_le _) hi).2
