/-! JOINED: what a round keeps, and that it comes to an end -/
def jk (x y : RS) : Prop := (∀ k, k ≠ 11 → k ≠ 12 → k ≠ 14 → k ≠ 17 → y.2.1 k = x.2.1 k) ∧ (∀ k, k ≠ 13 → k ≠ 15 → k ≠ 16 → y.1 k = x.1 k) ∧ y.2.2 = x.2.2
theorem jk.rf {x : RS} : jk x x := ⟨fun _ _ _ _ _ => rfl, fun _ _ _ _ => rfl, rfl⟩
theorem jk.tr {x y z : RS} (h : jk x y) (k : jk y z) : jk x z := ⟨fun i a b c d => (k.1 i a b c d).trans (h.1 i a b c d), fun i a b c => (k.2.1 i a b c).trans (h.2.1 i a b c), k.2.2.trans h.2.2⟩
theorem RC_jk {x y : RS} {k om hn : Nat} {hf hto hat hwh pm : Nat → Nat} (h : jk x y) (hR : RC x k om hn hf hto hat hwh pm) : RC y k om hn hf hto hat hwh pm := by
  unfold RC p_HH at hR ⊢
  rw [h.1 1 (by decide) (by decide) (by decide) (by decide), h.1 2 (by decide) (by decide) (by decide) (by decide), h.1 5 (by decide) (by decide) (by decide) (by decide), h.1 6 (by decide) (by decide) (by decide) (by decide), h.1 7 (by decide) (by decide) (by decide) (by decide)]
  exact hR
/-- how far a KIND can still fall -/
def krk (k : Int32) : Nat := if k = 0 then 0 else if k = 4 then 5 else if k = 14 ∨ k = 24 then 4 else if k = 12 ∨ k = 13 ∨ k = 15 ∨ k = 22 ∨ k = 23 ∨ k = 25 then 3 else if k = 5 ∨ k = 11 ∨ k = 16 ∨ k = 17 ∨ k = 21 then 2 else 1
theorem krk_le (k : Int32) : krk k ≤ 5 := by unfold krk; repeat (first | split | omega)
theorem krk_pos {k : Int32} (h : ¬ k = 0) : 0 < krk k := by unfold krk; rw [if_neg h]; repeat (first | split | omega)
def thList : List Int32 := [5, 10, 11, 12, 13, 14, 15, 16, 17, 21, 22, 23, 24, 25]
theorem thList_all : ∀ n : Nat, n < 26 → r_isThing (nI n) = true → nI n ∈ thList := by decide +kernel
theorem thing_in {k : Int32} (h : r_isThing k = true) : k ∈ thList := by
  have h0 := h
  unfold r_isThing r_isObj r_isRow at h
  rw [r_isIn_32 k 10 17 10 17 (by decide) (by decide), r_isIn_32 k 21 25 21 25 (by decide) (by decide)] at h
  simp only [Bool.or_eq_true, decide_eq_true_iff] at h
  rcases h with h | h | h
  · subst h; decide
  · obtain ⟨e, -⟩ := nat_of_toInt (a := k) (by omega)
    rw [e] at h0 ⊢
    exact thList_all _ (by omega) h0
  · obtain ⟨e, -⟩ := nat_of_toInt (a := k) (by omega)
    rw [e] at h0 ⊢
    exact thList_all _ (by omega) h0
theorem thPairs : ∀ x ∈ thList, ∀ y ∈ thList, r_joined x y ≠ x → krk (r_joined x y) < krk x := by decide +kernel
theorem thRank : ∀ x ∈ thList, krk x ≤ 4 := by decide +kernel
theorem obj_thing {k : Int32} (h : r_isObj k = true) : r_isThing k = true := by unfold r_isThing; rw [h]; simp
theorem row_thing {k : Int32} (h : r_isRow k = true) : r_isThing k = true := by unfold r_isThing; rw [h]; simp
theorem krk_dec {x y : Int32} (h : r_joined x y ≠ x) : krk (r_joined x y) < krk x := by
  by_cases hx : r_isThing x = true
  · by_cases hy : r_isThing y = true
    · exact thPairs x (thing_in hx) y (thing_in hy) h
    · have e : r_joined x y = 0 := by
        unfold r_joined at h ⊢
        by_cases c1 : x = y
        · rw [if_pos c1] at h; exact absurd rfl h
        · rw [if_neg c1] at h ⊢
          rw [if_neg (fun z => hy z.2)] at h ⊢
          by_cases c2 : y = 4 ∧ r_isThing x = true
          · rw [if_pos c2] at h; exact absurd rfl h
          · rw [if_neg c2]
            unfold r_join1 r_join2 r_join3
            rw [if_neg (by rw [Bool.and_eq_true]; exact fun z => hy (obj_thing z.2)), if_neg (by rw [Bool.and_eq_true]; exact fun z => hy (row_thing z.2)), if_neg (by rw [Bool.and_eq_true]; exact fun z => hy z.2)]
      rw [e] at h ⊢
      exact krk_pos (fun z => h z.symm)
  · have e : r_joined x y = 0 ∨ (x = 4 ∧ r_isThing y = true ∧ r_joined x y = y) := by
      unfold r_joined at h ⊢
      by_cases c1 : x = y
      · rw [if_pos c1] at h; exact absurd rfl h
      · rw [if_neg c1] at h ⊢
        by_cases c2 : x = 4 ∧ r_isThing y = true
        · rw [if_pos c2] at h ⊢; exact Or.inr ⟨c2.1, c2.2, rfl⟩
        · rw [if_neg c2, if_neg (fun z => hx z.2)]
          unfold r_join1 r_join2 r_join3
          rw [if_neg (by rw [Bool.and_eq_true]; exact fun z => hx (obj_thing z.1)), if_neg (by rw [Bool.and_eq_true]; exact fun z => hx (row_thing z.1)), if_neg (by rw [Bool.and_eq_true]; exact fun z => hx z.1)]
          exact Or.inl rfl
    rcases e with e | ⟨rfl, hy, e⟩
    · rw [e] at h ⊢
      exact krk_pos (fun z => h z.symm)
    · rw [e]
      have := thRank y (thing_in hy)
      have e4 : krk 4 = 5 := by decide
      omega
def prk (f : Nat → Int32) (o : Nat) : Nat → Nat
  | 0 => 0
  | n + 1 => prk f o n + krk (f (o + n))
theorem prk_le (f : Nat → Int32) (o : Nat) : ∀ n, prk f o n ≤ 5 * n
  | 0 => Nat.zero_le _
  | n + 1 => by
    have := prk_le f o n
    have := krk_le (f (o + n))
    show prk f o n + krk (f (o + n)) ≤ 5 * (n + 1)
    omega
theorem prk_congr {f g : Nat → Int32} {o : Nat} : ∀ n, (∀ p, p < n → f (o + p) = g (o + p)) → prk f o n = prk g o n
  | 0, _ => rfl
  | n + 1, h => by
    show prk f o n + krk (f (o + n)) = prk g o n + krk (g (o + n))
    rw [prk_congr n (fun p hp => h p (by omega)), h n (by omega)]
theorem prk_upd {f : Nat → Int32} {o p : Nat} {v : Int32} : ∀ n, p < n → prk (upd f (o + p) v) o n + krk (f (o + p)) = prk f o n + krk v
  | 0, h => by omega
  | n + 1, h => by
    show prk (upd f (o + p) v) o n + krk (upd f (o + p) v (o + n)) + krk (f (o + p)) = prk f o n + krk (f (o + n)) + krk v
    by_cases z : p = n
    · subst z
      have e1 : upd f (o + p) v (o + p) = v := by simp [upd]
      have e2 : prk (upd f (o + p) v) o p = prk f o p := prk_congr p (fun q hq => by simp only [upd, if_neg (show ¬ o + q = o + p by omega)])
      rw [e1, e2]
      omega
    · have e1 : upd f (o + p) v (o + n) = f (o + n) := by simp only [upd, if_neg (show ¬ o + n = o + p by omega)]
      have := prk_upd (f := f) (o := o) (p := p) (v := v) n (by omega)
      rw [e1]
      omega
def irk (d : Nat → Int32) (f : Nat → Int32) (i : Nat) : Nat := if d i < 0 then 81 else prk f (16 * i) 16
def trk (d f : Nat → Int32) : Nat → Nat
  | 0 => 0
  | n + 1 => trk d f n + irk d f n
theorem trk_congr {d d' f f' : Nat → Int32} : ∀ n, (∀ i, i < n → irk d f i = irk d' f' i) → trk d f n = trk d' f' n
  | 0, _ => rfl
  | n + 1, h => by
    show trk d f n + irk d f n = trk d' f' n + irk d' f' n
    rw [trk_congr n (fun i hi => h i (by omega)), h n (by omega)]
theorem trk_one {d d' f f' : Nat → Int32} {i : Nat} : ∀ n, i < n → (∀ j, j < n → j ≠ i → irk d' f' j = irk d f j) → trk d' f' n + irk d f i = trk d f n + irk d' f' i
  | 0, h, _ => by omega
  | n + 1, h, hj => by
    show trk d' f' n + irk d' f' n + irk d f i = trk d f n + irk d f n + irk d' f' i
    by_cases z : i = n
    · subst z
      have := trk_congr (d := d') (d' := d) (f := f') (f' := f) i (fun j q => hj j (by omega) (by omega))
      omega
    · have := trk_one (d := d) (d' := d') (f := f) (f' := f') (i := i) n (by omega) (fun j q => hj j (by omega))
      have := hj n (by omega) (fun e => z e.symm)
      omega
abbrev yrk (y : RS) : Nat := trk (y.2.1 11) (y.2.1 12) 40
def gr (y y' : RS) : Prop := ∀ i, i < 40 → ¬ y.2.1 11 i < 0 → y'.2.1 11 i = y.2.1 11 i ∧ ∀ p, p < 16 → vle (vc (y.2.1 12 (16 * i + p))) (vc (y'.2.1 12 (16 * i + p))) = true
theorem gr.rf {y : RS} : gr y y := fun _ _ _ => ⟨rfl, fun _ _ => vle_rf _⟩
theorem gr.tr {x y z : RS} (h : gr x y) (k : gr y z) : gr x z := by
  intro i hi h0
  obtain ⟨a1, a2⟩ := h i hi h0
  obtain ⟨b1, b2⟩ := k i hi (by rw [a1]; exact h0)
  exact ⟨b1.trans a1, fun p hp => vle_tr (a2 p hp) (b2 p hp)⟩
def jR (y y' : RS) (cb cb' : Bool) : Prop := jk y y' ∧ y'.1 16 = bI cb' ∧ (cb = true → cb' = true) ∧ (cb' = false → (∀ i, i < 40 → y'.2.1 11 i = y.2.1 11 i) ∧ ∀ j, j < 640 → y'.2.1 12 j = y.2.1 12 j) ∧ yrk y' ≤ yrk y ∧ (cb = false → cb' = true → yrk y' < yrk y) ∧ ((∀ i, i < 40 → r_dp (y.2.1 11 i)) → ∀ i, i < 40 → r_dp (y'.2.1 11 i)) ∧ y'.2.1 17 = y.2.1 17 ∧ y'.1 13 = y.1 13 ∧ gr y y'
theorem jR.rf {y : RS} {cb : Bool} (h : y.1 16 = bI cb) : jR y y cb cb := ⟨jk.rf, h, id, fun _ => ⟨fun _ _ => rfl, fun _ _ => rfl⟩, Nat.le_refl _, (fun a b => by rw [a] at b; cases b), id, rfl, rfl, gr.rf⟩
theorem jR.tr {x y z : RS} {a b c : Bool} (h : jR x y a b) (k : jR y z b c) : jR x z a c := by
  obtain ⟨h1, h2, h3, h4, h5, h6, h7, h8, h9, h10⟩ := h
  obtain ⟨k1, k2, k3, k4, k5, k6, k7, k8, k9, k10⟩ := k
  refine ⟨h1.tr k1, k2, fun q => k3 (h3 q), fun q => ?_, by omega, fun q1 q2 => ?_, fun q => k7 (h7 q), k8.trans h8, k9.trans h9, h10.tr k10⟩
  · have hb : b = false := by
      cases hb : b with
      | false => rfl
      | true => rw [k3 hb] at q; cases q
    exact ⟨fun i hi => ((k4 q).1 i hi).trans ((h4 hb).1 i hi), fun j hj => ((k4 q).2 j hj).trans ((h4 hb).2 j hj)⟩
  · cases hb : b with
    | false => have := k6 hb q2; omega
    | true => have := h6 q1 hb; omega
def fits_ (y : RS) (om : Nat) (b : Int32) (q : PL) : Prop := ∃ n, n < om ∧ b = nI n ∧ y.2.1 11 n = nI q.2 ∧ ∀ p, p < 8 + q.2 → r_joined (y.2.1 12 (16 * n + p)) (q.1 p) = y.2.1 12 (16 * n + p)
theorem jn_step {y : RS} {n t : Nat} {q : PL} {c0 : Bool} (hn : n < 40) (ht : t < 16) (hd : ¬ y.2.1 11 n < 0) (hc : (r_jn y n q t).1 16 = bI c0) : jR (r_jn y n q t) (r_jn y n q (t + 1)) c0 (c0 || !decide (r_joined ((r_jn y n q t).2.1 12 (16 * n + t)) (q.1 t) = (r_jn y n q t).2.1 12 (16 * n + t))) := by
  have hd' : ¬ (r_jn y n q t).2.1 11 n < 0 := by rw [r_jn_k (by decide)]; exact hd
  generalize hz : r_jn y n q t = z at hc hd' ⊢
  have e : r_jn y n q (t + 1) = sA (sS z 16 (z.1 16 ||| bI (!decide (r_joined (z.2.1 12 (16 * n + t)) (q.1 t) = z.2.1 12 (16 * n + t))))) 12 (16 * n + t) (r_joined (z.2.1 12 (16 * n + t)) (q.1 t)) := by
    rw [← hz]; rfl
  rw [e]
  generalize hv : r_joined (z.2.1 12 (16 * n + t)) (q.1 t) = v
  have a12 : (sA (sS z 16 (z.1 16 ||| bI (!decide (v = z.2.1 12 (16 * n + t))))) 12 (16 * n + t) v).2.1 12 = upd (z.2.1 12) (16 * n + t) v := by
    show va_up z.2.1 12 (upd (z.2.1 12) (16 * n + t) v) 12 = _
    simp [va_up]
  have aO : ∀ k, k ≠ 12 → (sA (sS z 16 (z.1 16 ||| bI (!decide (v = z.2.1 12 (16 * n + t))))) 12 (16 * n + t) v).2.1 k = z.2.1 k := by
    intro k hk
    show va_up z.2.1 12 (upd (z.2.1 12) (16 * n + t) v) k = _
    simp [va_up, hk]
  have s16 : (sA (sS z 16 (z.1 16 ||| bI (!decide (v = z.2.1 12 (16 * n + t))))) 12 (16 * n + t) v).1 16 = bI (c0 || !decide (v = z.2.1 12 (16 * n + t))) := by
    show upd z.1 16 (z.1 16 ||| bI _) 16 = _
    rw [hc, bI_or]
    simp [upd]
  have sO : ∀ k, k ≠ 16 → (sA (sS z 16 (z.1 16 ||| bI (!decide (v = z.2.1 12 (16 * n + t))))) 12 (16 * n + t) v).1 k = z.1 k := by
    intro k hk
    show upd z.1 16 _ k = _
    simp [upd, hk]
  have rk : yrk (sA (sS z 16 (z.1 16 ||| bI (!decide (v = z.2.1 12 (16 * n + t))))) 12 (16 * n + t) v) + krk (z.2.1 12 (16 * n + t)) = yrk z + krk v := by
    unfold yrk
    rw [a12, aO 11 (by decide)]
    have h1 := trk_one (d := z.2.1 11) (d' := z.2.1 11) (f := z.2.1 12) (f' := upd (z.2.1 12) (16 * n + t) v) (i := n) 40 hn (fun j hj hne => by
      unfold irk
      by_cases c : z.2.1 11 j < 0
      · rw [if_pos c, if_pos c]
      · rw [if_neg c, if_neg c]
        refine prk_congr 16 (fun p hp => ?_)
        have : 16 * j + p ≠ 16 * n + t := by omega
        simp [upd, this])
    have h2 := prk_upd (f := z.2.1 12) (o := 16 * n) (p := t) (v := v) 16 ht
    unfold irk at h1
    rw [if_neg hd', if_neg hd'] at h1
    omega
  refine ⟨⟨fun k a b c d => aO k b, fun k a b c => sO k c, rfl⟩, s16, fun q => by rw [q]; rfl, fun q => ?_, ?_, fun q1 q2 => ?_, fun h i hi => by rw [aO 11 (by decide)]; exact h i hi, aO 17 (by decide), sO 13 (by decide), fun i hi h0 => ⟨by rw [aO 11 (by decide)], fun p hp => ?_⟩⟩
  · have hve : v = z.2.1 12 (16 * n + t) := by
      by_cases w : v = z.2.1 12 (16 * n + t)
      · exact w
      · rw [decide_eq_false w] at q; simp at q
    refine ⟨fun i _ => by rw [aO 11 (by decide)], fun j _ => ?_⟩
    rw [a12]
    by_cases w : j = 16 * n + t
    · subst w; simp [upd, hve]
    · simp [upd, w]
  · by_cases w : v = z.2.1 12 (16 * n + t)
    · have : krk v = krk (z.2.1 12 (16 * n + t)) := by rw [← w]
      omega
    · have := krk_dec (x := z.2.1 12 (16 * n + t)) (y := q.1 t) (by rw [hv]; exact w)
      rw [hv] at this
      omega
  · have w : ¬ v = z.2.1 12 (16 * n + t) := by
      intro w
      rw [q1, decide_eq_true w] at q2
      cases q2
    have := krk_dec (x := z.2.1 12 (16 * n + t)) (y := q.1 t) (by rw [hv]; exact w)
    rw [hv] at this
    omega
  · rw [a12]
    by_cases w : 16 * i + p = 16 * n + t
    · rw [w]
      have e9 : upd (z.2.1 12) (16 * n + t) v (16 * n + t) = v := by simp [upd]
      rw [e9, ← hv]
      exact vc_join.1
    · have e9 : upd (z.2.1 12) (16 * n + t) v (16 * i + p) = z.2.1 12 (16 * i + p) := by simp only [upd, if_neg w]
      rw [e9]
      exact vle_rf _
theorem jn_all {y : RS} {n : Nat} {q : PL} {cb : Bool} (hn : n < 40) (hd : ¬ y.2.1 11 n < 0) (hcb : y.1 16 = bI cb) : ∀ t, t ≤ 16 → ∃ c1, jR y (r_jn y n q t) cb c1 ∧ (c1 = false → ∀ p, p < t → r_joined (y.2.1 12 (16 * n + p)) (q.1 p) = y.2.1 12 (16 * n + p))
  | 0, _ => ⟨cb, jR.rf hcb, fun _ p hp => by omega⟩
  | t + 1, ht => by
    obtain ⟨c0, h0, f0⟩ := jn_all (q := q) hn hd hcb t (by omega)
    have st := jn_step (q := q) (t := t) hn (by omega) hd h0.2.1
    refine ⟨_, h0.tr st, fun q0 p hp => ?_⟩
    have hc0 : c0 = false := by
      cases c0 with
      | false => rfl
      | true => simp at q0
    have hw : r_joined ((r_jn y n q t).2.1 12 (16 * n + t)) (q.1 t) = (r_jn y n q t).2.1 12 (16 * n + t) := by
      by_cases w : r_joined ((r_jn y n q t).2.1 12 (16 * n + t)) (q.1 t) = (r_jn y n q t).2.1 12 (16 * n + t)
      · exact w
      · rw [decide_eq_false w, hc0] at q0; simp at q0
    by_cases z : p = t
    · subst z
      rw [(h0.2.2.2.1 hc0).2 (16 * n + p) (by omega)] at hw
      exact hw
    · exact f0 hc0 p (by omega)
theorem cpA_out {f g : Nat → Int32} {o j : Nat} : ∀ {n : Nat}, ¬ (o ≤ j ∧ j < o + n) → cpA f o g n j = f j
  | 0, _ => rfl
  | n + 1, h => by
    show upd (cpA f o g n) (o + n) (g n) j = f j
    have e : j ≠ o + n := by omega
    simp only [upd, if_neg e]
    exact cpA_out (by omega)
theorem cpA_in {f g : Nat → Int32} {o p : Nat} : ∀ {n : Nat}, p < n → cpA f o g n (o + p) = g p
  | 0, h => by omega
  | n + 1, h => by
    show upd (cpA f o g n) (o + n) (g n) (o + p) = g p
    by_cases z : p = n
    · subst z; simp [upd]
    · have e : o + p ≠ o + n := by omega
      simp only [upd, if_neg e]
      exact cpA_in (by omega)
theorem r_dp_n {d : Nat} (h : d ≤ 8) : r_dp (nI d) := Or.inr ⟨d, h, rfl⟩
theorem sees_11 {y : RS} {n : Nat} {q : PL} : (r_sees y n q).2.1 11 = upd (y.2.1 11) n (nI q.2) := by
  show va_up (va_up y.2.1 11 (upd (y.2.1 11) n (nI q.2))) 12 (cpA (y.2.1 12) (16 * n) q.1 16) 11 = _
  simp [va_up]
theorem sees_12 {y : RS} {n : Nat} {q : PL} : (r_sees y n q).2.1 12 = cpA (y.2.1 12) (16 * n) q.1 16 := by
  show va_up (va_up y.2.1 11 (upd (y.2.1 11) n (nI q.2))) 12 (cpA (y.2.1 12) (16 * n) q.1 16) 12 = _
  simp [va_up]
theorem sees_o {y : RS} {n k : Nat} {q : PL} (h1 : k ≠ 11) (h2 : k ≠ 12) : (r_sees y n q).2.1 k = y.2.1 k := by
  show va_up (va_up y.2.1 11 (upd (y.2.1 11) n (nI q.2))) 12 (cpA (y.2.1 12) (16 * n) q.1 16) k = _
  simp [va_up, h1, h2]
theorem sees_jR {y : RS} {n : Nat} {q : PL} {cb : Bool} (hn : n < 40) (hq : q.2 ≤ 8) (c2 : y.2.1 11 n < 0) : jR y (sS (r_sees y n q) 16 1) cb true := by
  have e0 : (0 : Int32).toInt = 0 := by decide
  have rk : yrk (sS (r_sees y n q) 16 1) < yrk y := by
    show trk ((r_sees y n q).2.1 11) ((r_sees y n q).2.1 12) 40 < trk (y.2.1 11) (y.2.1 12) 40
    rw [sees_11, sees_12]
    have h1 := trk_one (d := y.2.1 11) (d' := upd (y.2.1 11) n (nI q.2)) (f := y.2.1 12) (f' := cpA (y.2.1 12) (16 * n) q.1 16) (i := n) 40 hn (fun j hj hne => by
      unfold irk
      have e : upd (y.2.1 11) n (nI q.2) j = y.2.1 11 j := by simp [upd, hne]
      rw [e]
      by_cases c : y.2.1 11 j < 0
      · rw [if_pos c, if_pos c]
      · rw [if_neg c, if_neg c]
        exact prk_congr 16 (fun p hp => cpA_out (by omega)))
    have h2 : irk (y.2.1 11) (y.2.1 12) n = 81 := by unfold irk; rw [if_pos c2]
    have h3 : irk (upd (y.2.1 11) n (nI q.2)) (cpA (y.2.1 12) (16 * n) q.1 16) n ≤ 80 := by
      unfold irk
      have e : upd (y.2.1 11) n (nI q.2) n = nI q.2 := by simp [upd]
      have e2 : ¬ nI q.2 < 0 := by
        rw [Int32.lt_iff_toInt_lt, nI_toInt (by omega)]
        omega
      rw [e, if_neg e2]
      exact prk_le _ _ 16
    omega
  refine ⟨⟨fun k a b c d => sees_o a b, fun k a b c => ?_, rfl⟩, ?_, fun _ => rfl, fun z => (by cases z), Nat.le_of_lt rk, fun _ _ => rk, fun h i hi => ?_, sees_o (by decide) (by decide), ?_, fun i hi h0 => ?_⟩
  · show upd y.1 16 1 k = _
    simp [upd, c]
  · show upd y.1 16 1 16 = _
    simp [upd, bI]
  · show r_dp ((r_sees y n q).2.1 11 i)
    rw [sees_11]
    by_cases w : i = n
    · have e : upd (y.2.1 11) n (nI q.2) i = nI q.2 := by simp [upd, w]
      rw [e]
      exact r_dp_n hq
    · have e : upd (y.2.1 11) n (nI q.2) i = y.2.1 11 i := by simp [upd, w]
      rw [e]
      exact h i hi
  · show upd y.1 16 1 13 = _
    simp [upd]
  · have w : i ≠ n := fun e => h0 (by rw [e]; exact c2)
    show (r_sees y n q).2.1 11 i = _ ∧ ∀ p, p < 16 → vle _ (vc ((r_sees y n q).2.1 12 (16 * i + p))) = true
    rw [sees_11, sees_12]
    refine ⟨by simp only [upd, if_neg w], fun p hp => ?_⟩
    rw [cpA_out (by omega)]
    exact vle_rf _
theorem comes_jR {y : RS} {om : Nat} {b : Int32} {q : PL} {cb : Bool} (ho : om ≤ 40) (hq : q.2 ≤ 8) (hcb : y.1 16 = bI cb) : ∃ c1, jR y (r_comes y om b q).2 cb c1 ∧ ((r_comes y om b q).1 = true → c1 = false → fits_ y om b q) := by
  unfold r_comes
  by_cases c1 : r_isM om b = true
  · obtain ⟨n, hn, rfl⟩ := isM_nat c1
    have hcl : (nI n).toNatClampNeg = n := nI_clamp (by omega)
    rw [if_pos c1, hcl]
    by_cases c2 : y.2.1 11 n < 0
    · rw [if_pos c2]
      exact ⟨true, sees_jR (by omega) hq c2, fun _ z => (by cases z)⟩
    · rw [if_neg c2]
      by_cases c3 : y.2.1 11 n = nI q.2
      · rw [if_pos c3]
        obtain ⟨c, h, f⟩ := jn_all (q := q) (by omega : n < 40) c2 hcb (8 + q.2) (by omega)
        exact ⟨c, h, fun _ z => ⟨n, hn, rfl, c3, f z⟩⟩
      · rw [if_neg c3]
        exact ⟨cb, jR.rf hcb, fun z => (by cases z)⟩
  · rw [if_neg c1]
    exact ⟨cb, jR.rf hcb, fun z => (by cases z)⟩
theorem jR.back {y y' : RS} {a b : Bool} (h : jR y y' a b) (hb : b = false) : a = false := by
  cases a with
  | false => rfl
  | true => rw [h.2.2.1 rfl] at hb; cases hb
theorem ahead_lo {y : RS} {h : Nat → Int32} {j : Nat} (hj : j < 8) : p_ahead y h j = y.2.1 17 j := by
  unfold p_ahead
  have e : j ≠ 8 := by omega
  simp only [upd, if_neg e]
  have := cpA_in (f := h) (g := y.2.1 17) (o := 0) (p := j) (n := 8) hj
  rw [Nat.zero_add] at this
  exact this
theorem ahead_8 {y : RS} {h : Nat → Int32} : p_ahead y h 8 = 1 := by
  unfold p_ahead
  simp [upd]
/-- an instruction from which all that it leaves has come where it must -/
def Cl (y : RS) (k om hn : Nat) (hf hto hat pm : Nat → Nat) (i : Nat) : Prop := ∃ (h : Nat → Int32) (e1 : Nat) (z : PL), e1 ≤ 8 ∧ y.2.1 11 i = nI e1 ∧ r_code y k om pm i (p_takes y i h, e1) = some z ∧ (r_last (y.2.1 3 (40 * k + i)) = false → fits_ y om (nI i + 1) z) ∧ (r_leads (y.2.1 3 (40 * k + i)) = true → fits_ y om (y.2.2 4 (40 * k + i)).toInt32 z) ∧ ∀ g, g < hn → hf g ≤ i → i ≤ hto g - 1 → ∃ h2 : Nat → Int32, (∀ j, j < 8 → h2 j = y.2.1 12 (16 * i + j)) ∧ h2 8 = 1 ∧ fits_ y om (nI (hat g)) (h2, 1)
theorem fits_eq {y y' : RS} {om : Nat} {b : Int32} {q : PL} (ho : om ≤ 40) (hq : q.2 ≤ 8) (h1 : ∀ i, i < 40 → y'.2.1 11 i = y.2.1 11 i) (h2 : ∀ j, j < 640 → y'.2.1 12 j = y.2.1 12 j) (h : fits_ y' om b q) : fits_ y om b q := by
  obtain ⟨n, hn, e, h3, h4⟩ := h
  refine ⟨n, hn, e, by rw [← h1 n (by omega)]; exact h3, fun p hp => ?_⟩
  have := h4 p hp
  rw [h2 _ (by omega)] at this
  exact this
