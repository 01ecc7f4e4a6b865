/-! JOINED: the rounds -/
theorem nI_n0 {n : Nat} (h : n < 1000) : ¬ nI n < 0 := by
  have e0 : (0 : Int32).toInt = 0 := by decide
  rw [Int32.lt_iff_toInt_lt, nI_toInt (by omega), e0]
  omega
theorem jk_S {x y : RS} {k : Nat} {v : Int32} (h : jk x y) (hk : k = 13 ∨ k = 15 ∨ k = 16) : jk x (sS y k v) := by
  refine ⟨h.1, fun j a b c => ?_, h.2.2⟩
  show upd y.1 k v j = _
  have e : j ≠ k := by omega
  simp only [upd, if_neg e]
  exact h.2.1 j a b c
theorem jk_forget (x : RS) : jk x (r_forget x) := by
  refine ⟨fun j a b c d => ?_, fun _ _ _ _ => rfl, rfl⟩
  show va_up x.2.1 11 _ j = _
  simp [va_up, a]
theorem jk_see {x y : RS} {n : Nat} {q : PL} (h : jk x y) : jk x (r_sees y n q) := ⟨fun j a b c d => (sees_o a b).trans (h.1 j a b c d), h.2.1, h.2.2⟩
theorem fmA_in {f : Nat → Int32} {v : Int32} {p : Nat} : ∀ {n : Nat}, p < n → fmA f 0 v n p = v
  | 0, h => by omega
  | n + 1, h => by
    rw [← fmA_0]
    by_cases z : p = n
    · subst z; simp [upd]
    · simp only [upd, if_neg z]
      exact fmA_in (by omega)
theorem dp_forget {x : RS} : ∀ i, i < 40 → r_dp ((r_forget x).2.1 11 i) := by
  intro i hi
  have e : (r_forget x).2.1 11 = fmA (x.2.1 11) 0 (-1) 40 := by
    show va_up x.2.1 11 (fmA (x.2.1 11) 0 (-1) 40) 11 = _
    simp [va_up]
  rw [e, fmA_in hi]
  exact Or.inl rfl
theorem dp_see {y : RS} {n : Nat} {f : Nat → Int32} (h : ∀ i, i < 40 → r_dp (y.2.1 11 i)) : ∀ i, i < 40 → r_dp ((r_sees y n (f, 0)).2.1 11 i) := by
  intro i hi
  rw [sees_11]
  by_cases w : i = n
  · have e : upd (y.2.1 11) n (nI 0) i = nI 0 := by simp [upd, w]
    rw [e]
    exact r_dp_n (by omega)
  · have e : upd (y.2.1 11) n (nI 0) i = y.2.1 11 i := by simp [upd, w]
    rw [e]
    exact h i hi
/-- what is before the first instruction -/
def jE (y : RS) (f : Nat → Int32) : Prop := y.2.1 11 0 = nI 0 ∧ ∀ p, p < 16 → vle (vc (f p)) (vc (y.2.1 12 (16 * 0 + p))) = true
theorem jE_gr {x y : RS} {f : Nat → Int32} (h : gr x y) (he : jE x f) : jE y f := by
  obtain ⟨a, b⟩ := h 0 (by omega) (by rw [he.1]; decide)
  exact ⟨a.trans he.1, fun p hp => vle_tr (he.2 p hp) (b p hp)⟩
theorem jE_see (y : RS) (f : Nat → Int32) : jE (r_sees y 0 (f, 0)) f := by
  refine ⟨by rw [sees_11]; simp [upd], fun p hp => ?_⟩
  rw [sees_12, cpA_in hp]
  exact vle_rf _
theorem jS_16 (y : RS) (v : Int32) : (sS (sS y 16 0) 13 v).1 16 = bI false := by
  show upd (upd y.1 16 0) 13 v 16 = _
  simp [upd, bI]
theorem jS_16t (y : RS) : (sS y 16 1).1 16 = bI true := by
  show upd y.1 16 1 16 = _
  simp [upd, bI]
/-- what has come is set down, so far -/
def cR (y y' : RS) (i t : Nat) : Prop := (∀ k, k ≠ 17 → y'.2.1 k = y.2.1 k) ∧ y'.1 = y.1 ∧ y'.2.2 = y.2.2 ∧ ∀ j, j < t → y'.2.1 17 j = y.2.1 12 (16 * i + j)
theorem cR.rf {y : RS} {i : Nat} : cR y y i 0 := ⟨fun _ _ => rfl, rfl, rfl, fun j hj => by omega⟩
theorem cR.st {y y' : RS} {i t : Nat} (h : cR y y' i t) : cR y (sA y' 17 t (y'.2.1 12 (16 * i + t))) i (t + 1) := by
  obtain ⟨h1, h2, h3, h4⟩ := h
  refine ⟨fun k hk => ?_, h2, h3, fun j hj => ?_⟩
  · show va_up y'.2.1 17 _ k = _
    simp only [va_up, if_neg hk]
    exact h1 k hk
  · show va_up y'.2.1 17 (upd (y'.2.1 17) t _) 17 j = _
    have e : va_up y'.2.1 17 (upd (y'.2.1 17) t (y'.2.1 12 (16 * i + t))) 17 = upd (y'.2.1 17) t (y'.2.1 12 (16 * i + t)) := by simp [va_up]
    rw [e, h1 12 (by decide)]
    by_cases z : j = t
    · subst z; simp [upd]
    · simp only [upd, if_neg z]
      exact h4 j (by omega)
theorem cR.kj {y y' : RS} {i t : Nat} (h : cR y y' i t) : jk y y' := ⟨fun k _ _ _ d => h.1 k d, fun k _ _ _ => by rw [h.2.1], h.2.2.1⟩
theorem cR.to {y y' : RS} {k om hn : Nat} {hf hto hat hwh pm : Nat → Nat} {i e1_ : Nat} {cb : Bool} (h : cR y y' i 8) (hcb : y.1 16 = bI cb) (hR : RC y k om hn hf hto hat hwh pm) (he : y.2.1 11 i = nI e1_) : y'.1 16 = bI cb ∧ jk y y' ∧ RC y' k om hn hf hto hat hwh pm ∧ y'.2.1 11 i = nI e1_ ∧ ∀ j, j < 8 → y'.2.1 17 j = y'.2.1 12 (16 * i + j) := by
  refine ⟨by rw [h.2.1]; exact hcb, h.kj, RC_jk h.kj hR, by rw [h.1 11 (by decide)]; exact he, fun j hj => ?_⟩
  rw [h.1 12 (by decide)]
  exact h.2.2.2 j hj
theorem cR.dp {y y' : RS} {i t : Nat} (h : cR y y' i t) (hd : ∀ i, i < 40 → r_dp (y.2.1 11 i)) : ∀ i, i < 40 → r_dp (y'.2.1 11 i) := by rw [h.1 11 (by decide)]; exact hd
theorem cR.rg {y y' : RS} {i t : Nat} (h : cR y y' i t) : gr y y' := fun j hj h0 => ⟨by rw [h.1 11 (by decide)], fun p hp => by rw [h.1 12 (by decide)]; exact vle_rf _⟩
theorem cR.rk {y y' : RS} {i t : Nat} (h : cR y y' i t) : yrk y' = yrk y := by unfold yrk; rw [h.1 11 (by decide), h.1 12 (by decide)]
theorem jrk {y2 y3 y4 : RS} {a b : Bool} {N : Nat} (h : jR y3 y4 a b) (z : b = true) (e : yrk y3 = yrk y2) (h1 : a = true → yrk y2 < N) (h2 : yrk y2 ≤ N) : yrk y4 < N := by
  have := h.2.2.2.2.1
  cases ha : a with
  | true => have := h1 ha; omega
  | false => have := h.2.2.2.2.2.1 ha z; omega
theorem p_takes_eq {y y' : RS} {i : Nat} (h : ∀ p, p < 16 → y'.2.1 12 (16 * i + p) = y.2.1 12 (16 * i + p)) (g : Nat → Int32) : p_takes y' i g = p_takes y i g := by
  unfold p_takes
  funext j
  by_cases z : j < 16
  · have e1 := cpA_in (f := g) (g := fun k => y'.2.1 12 (16 * i + k)) (o := 0) (p := j) (n := 16) z
    have e2 := cpA_in (f := g) (g := fun k => y.2.1 12 (16 * i + k)) (o := 0) (p := j) (n := 16) z
    rw [Nat.zero_add] at e1 e2
    rw [e1, e2]
    exact h j z
  · rw [cpA_out (by omega), cpA_out (by omega)]
theorem Cl_eq {y y' : RS} {k om hn : Nat} {hf hto hat pm : Nat → Nat} {i : Nat} (ho : om ≤ 40) (hi : i < 40) (h : jk y y') (h1 : ∀ i, i < 40 → y'.2.1 11 i = y.2.1 11 i) (h2 : ∀ j, j < 640 → y'.2.1 12 j = y.2.1 12 j) (hc : Cl y k om hn hf hto hat pm i) : Cl y' k om hn hf hto hat pm i := by
  obtain ⟨g, e1, z, a1, a2, a3, a4, a5, a6⟩ := hc
  have s1 : ∀ i, i < 40 → y.2.1 11 i = y'.2.1 11 i := fun i hi => (h1 i hi).symm
  have s2 : ∀ j, j < 640 → y.2.1 12 j = y'.2.1 12 j := fun j hj => (h2 j hj).symm
  have o3 : y'.2.1 3 = y.2.1 3 := h.1 3 (by decide) (by decide) (by decide) (by decide)
  have z8 : z.2 ≤ 8 := p_op_le a3 (by show e1 ≤ 8; exact a1)
  refine ⟨g, e1, z, a1, by rw [h1 i hi]; exact a2, ?_, fun w => ?_, fun w => ?_, fun t b1 b2 b3 => ?_⟩
  · rw [p_takes_eq (fun p hp => h2 _ (by omega))]
    unfold r_code at a3 ⊢
    rw [o3, h.2.2]
    exact a3
  · rw [o3] at w
    exact fits_eq ho z8 s1 s2 (a4 w)
  · rw [o3] at w
    rw [h.2.2]
    exact fits_eq ho z8 s1 s2 (a5 w)
  · obtain ⟨h9, c1, c2, c3⟩ := a6 t b1 b2 b3
    exact ⟨h9, fun j hj => by rw [h2 _ (by omega)]; exact c1 j hj, c2, fits_eq ho (by show 1 ≤ 8; omega) s1 s2 c3⟩
theorem jcl {y2 y3 y4 : RS} {k om hn : Nat} {hf hto hat pm : Nat → Nat} {i : Nat} {a : Bool} (ha : a = false) (hs : (∀ i, i < 40 → y4.2.1 11 i = y3.2.1 11 i) ∧ ∀ j, j < 640 → y4.2.1 12 j = y3.2.1 12 j) (hj : jk y3 y4) (hcr : cR y2 y3 i 8) (ho : om ≤ 40) (hi : i < om) (hcl : a = false → ∀ i9, i9 < i → ¬ y2.2.1 11 i9 < 0 → Cl y2 k om hn hf hto hat pm i9) (hc : Cl y3 k om hn hf hto hat pm i) : ∀ i9, i9 < i + 1 → ¬ y4.2.1 11 i9 < 0 → Cl y4 k om hn hf hto hat pm i9 := by
  intro i9 h9 h0
  by_cases w : i9 = i
  · subst w
    exact Cl_eq ho (by omega) hj hs.1 hs.2 hc
  · refine Cl_eq ho (by omega) (hcr.kj.tr hj) (fun i hi => by rw [hs.1 i hi, hcr.1 11 (by decide)]) (fun j hj => by rw [hs.2 j hj, hcr.1 12 (by decide)]) (hcl ha i9 (by omega) ?_)
    rw [hs.1 i9 (by omega), hcr.1 11 (by decide)] at h0
    exact h0
def cmF (x : RS) (i t : Nat) : RS := sAs x 17 (cpA (x.2.1 17) 0 (fun j => x.2.1 12 (16 * i + j)) t)
theorem cmF_0 {x : RS} {i : Nat} : x = cmF x i 0 := by
  unfold cmF sAs
  show x = (x.1, va_up x.2.1 17 (x.2.1 17), x.2.2)
  have e : va_up x.2.1 17 (x.2.1 17) = x.2.1 := by
    funext k
    by_cases w : k = 17
    · subst w; simp [va_up]
    · simp [va_up, w]
  rw [e]
theorem cmF_s {x y : RS} {i t : Nat} (h : y = cmF x i t) : sA y 17 t (y.2.1 12 (16 * i + t)) = cmF x i (t + 1) := by
  subst h
  have e12 : (cmF x i t).2.1 12 = x.2.1 12 := by
    unfold cmF sAs
    simp [va_up]
  have e17 : (cmF x i t).2.1 17 = cpA (x.2.1 17) 0 (fun j => x.2.1 12 (16 * i + j)) t := by
    unfold cmF sAs
    simp [va_up]
  rw [e12]
  unfold sA
  rw [e17, cpA_0 (g := fun j => x.2.1 12 (16 * i + j)) rfl]
  have e : va_up (cmF x i t).2.1 17 (cpA (x.2.1 17) 0 (fun j => x.2.1 12 (16 * i + j)) (t + 1)) = va_up x.2.1 17 (cpA (x.2.1 17) 0 (fun j => x.2.1 12 (16 * i + j)) (t + 1)) := by
    funext k
    by_cases w : k = 17
    · subst w; simp [va_up]
    · unfold cmF sAs
      simp [va_up, w]
  rw [e]
  rfl
/-- a round, from instruction i on -/
def rdF (k om hn : Nat) (hf hto hat pm : Nat → Nat) : Nat → Nat → RS → PL → Option Nat × RS × PL
  | 0, _, x, q => (none, x, q)
  | u + 1, i, x, q => if x.2.1 11 i < 0 then rdF k om hn hf hto hat pm u (i + 1) x q else (if (goF k om hn hf hto hat pm i (x.2.1 11 i).toNatClampNeg (cmF x i 8) q.1).1 = true then rdF k om hn hf hto hat pm u (i + 1) (goF k om hn hf hto hat pm i (x.2.1 11 i).toNatClampNeg (cmF x i 8) q.1).2.1 (goF k om hn hf hto hat pm i (x.2.1 11 i).toNatClampNeg (cmF x i 8) q.1).2.2 else (some i, x, q))
section Rdr
variable {k om hn u i e1 : Nat} {hf hto hat pm : Nat → Nat} {x x' y : RS} {q q1 : PL}
theorem rd_n (c : x.2.1 11 i < 0) : rdF k om hn hf hto hat pm (u + 1) i x q = rdF k om hn hf hto hat pm u (i + 1) x q := by
  show (if _ then _ else _) = _
  rw [if_pos c]
theorem cl_e (h2 : x.2.1 11 i = nI e1) (h3 : e1 ≤ 8) : (x.2.1 11 i).toNatClampNeg = e1 ∧ ¬ x.2.1 11 i < 0 := by
  rw [h2]
  exact ⟨nI_clamp (by omega), nI_n0 (by omega)⟩
theorem rd_f (hx : x' = cmF x i 8) (h2 : x.2.1 11 i = nI e1) (h3 : e1 ≤ 8) (h4 : GoE k om hn hf hto hat pm i e1 x' q.1 false y q1) : (rdF k om hn hf hto hat pm (u + 1) i x q).1 = some i := by
  obtain ⟨a, b⟩ := cl_e h2 h3
  show (if _ then _ else _ : Option Nat × RS × PL).1 = _
  rw [if_neg b, a, ← hx, if_neg (by rw [h4.1]; decide)]
theorem rd_t (hx : x' = cmF x i 8) (h2 : x.2.1 11 i = nI e1) (h3 : e1 ≤ 8) (h4 : GoE k om hn hf hto hat pm i e1 x' q.1 true y q1) : rdF k om hn hf hto hat pm (u + 1) i x q = rdF k om hn hf hto hat pm u (i + 1) y q1 := by
  obtain ⟨a, b⟩ := cl_e h2 h3
  show (if _ then _ else _) = _
  rw [if_neg b, a, ← hx, if_pos h4.1, h4.2 rfl]
end Rdr
/-- rounds until nothing changes: the first WRONG, how many -/
def lpF (k om hn : Nat) (hf hto hat pm : Nat → Nat) : Nat → RS → PL → Option Nat × Nat
  | 0, _, _ => (none, 0)
  | m + 1, x, q => if x.1 16 = 0 then (none, 0) else match (rdF k om hn hf hto hat pm om 0 (sS (sS x 16 0) 13 (x.1 13 + 1)) q).1 with
    | some i => (some i, 1)
    | none => ((lpF k om hn hf hto hat pm m (rdF k om hn hf hto hat pm om 0 (sS (sS x 16 0) 13 (x.1 13 + 1)) q).2.1 (rdF k om hn hf hto hat pm om 0 (sS (sS x 16 0) 13 (x.1 13 + 1)) q).2.2).1, (lpF k om hn hf hto hat pm m (rdF k om hn hf hto hat pm om 0 (sS (sS x 16 0) 13 (x.1 13 + 1)) q).2.1 (rdF k om hn hf hto hat pm om 0 (sS (sS x 16 0) 13 (x.1 13 + 1)) q).2.2).2 + 1)
theorem lp_0 {k om hn m : Nat} {hf hto hat pm : Nat → Nat} {x : RS} {q : PL} (h : x.1 16 = 0) : lpF k om hn hf hto hat pm m x q = (none, 0) := by
  cases m with
  | zero => rfl
  | succ m =>
    show (if _ then _ else _) = _
    rw [if_pos h]
theorem lp_i {k om hn m i : Nat} {hf hto hat pm : Nat → Nat} {x : RS} {q : PL} (h : ¬ x.1 16 = 0) (e : (rdF k om hn hf hto hat pm om 0 (sS (sS x 16 0) 13 (x.1 13 + 1)) q).1 = some i) : lpF k om hn hf hto hat pm (m + 1) x q = (some i, 1) := by
  show (if _ then _ else _) = _
  rw [if_neg h, e]
theorem lp_s {k om hn m : Nat} {hf hto hat pm : Nat → Nat} {x y : RS} {q q1 : PL} (h : ¬ x.1 16 = 0) (e : rdF k om hn hf hto hat pm om 0 (sS (sS x 16 0) 13 (x.1 13 + 1)) q = (none, y, q1)) : lpF k om hn hf hto hat pm (m + 1) x q = ((lpF k om hn hf hto hat pm m y q1).1, (lpF k om hn hf hto hat pm m y q1).2 + 1) := by
  show (if _ then _ else _) = _
  rw [if_neg h, e]
def jS0 (k : Nat) (pm : Nat → Nat) (x : RS) (h : Nat → Int32) : RS := sS (r_sees (sS (r_forget x) 13 0) 0 (p_begin (pm k) h, 0)) 16 1
def jF (k om hn : Nat) (hf hto hat pm : Nat → Nat) (x : RS) (h : Nat → Int32) : Option Nat × Nat := if om = 0 then (some 0, 0) else lpF k om hn hf hto hat pm (yrk (jS0 k pm x h) + 1) (jS0 k pm x h) (p_begin (pm k) h, 0)
def jv (w : Option Nat) : Int32 := match w with
  | none => -1
  | some i => nI i
theorem jS_13 (y : RS) (v : Int32) : (sS (sS y 16 0) 13 v).1 13 = v := by
  show upd (upd y.1 16 0) 13 v 13 = v
  simp [upd]
theorem jS_130 (y : RS) : (sS y 13 0).1 13 = nI 0 := by
  have : upd y.1 13 0 13 = 0 := by simp [upd]
  exact this
theorem v_X10_wrongJoined : mVm yX10_wrongJoined cX10_wrongJoined 4 (some .int) 1 := ⟨cd_X10_wrongJoined, im_X10_wrongJoined, se_X10_wrongJoined, ini_X10, by decide, by decide, by decide +kernel⟩
set_option maxHeartbeats 4000000 in
set_option maxRecDepth 100000 in
theorem k_X10_wrongJoined (Γ : mG) (l : Launch) (L : mI → Nat) (x : RS) (h : Nat → Int32) (d : Nat) (a : Int32) (k om hn : Nat) (hf hto hat hwh pm : Nat → Nat) (ha : a = nI k) (hk : k < 8) (hR : RC x k om hn hf hto hat hwh pm) : mMet Γ l yX10_wrongJoined cX10_wrongJoined 4 (some .int) { frames := 8, cells := 0, slots := 0, locals := 187 } [.ref (L (.inl 0)), .int a] L (rM Γ L (sH x (h, d))) (mQi Γ (fun r L1 M1 => ∃ (y : RS) (q : PL), L1 = L ∧ M1 = rM Γ L (sH y q) ∧ jk x y ∧ (∀ i, i < 40 → r_dp (y.2.1 11 i)) ∧ (r < 0 → 0 < om ∧ jE y (p_begin (pm k) h) ∧ ∀ i, i < om → ¬ y.2.1 11 i < 0 → Cl y k om hn hf hto hat pm i) ∧ r = jv (jF k om hn hf hto hat pm x h).1 ∧ y.1 13 = nI (jF k om hn hf hto hat pm x h).2)) := by
  refine m_start (by decide) (Nat.le_of_ble_eq_true rfl) ?_
  intro p e s m args below meth c A ls X hr hlk hnm hw hS hl
  have hx := X.1.1
  have hb := X.1.2.1
  have ho40 := hR.2.1
  have hl : lv_has ls 4 [(0, .ref (L (.inl 0))), (1, .int a)] := hl
  have K31 : ∀ (N r0 : Nat) (y : RS) (h2 : Nat → Int32) (d2 : Nat) (cb : Bool) (H : Heap) (locs : List Loc) (ls : Array Slot), (cb = true → yrk y < N) → RC y k om hn hf hto hat hwh pm → 0 < om → (∀ i, i < 40 → r_dp (y.2.1 11 i)) → y.1 16 = bI cb → jk x y → jE y (p_begin (pm k) h) → (cb = false → ∀ i, i < om → ¬ y.2.1 11 i < 0 → Cl y k om hn hf hto hat pm i) → jF k om hn hf hto hat pm x h = ((lpF k om hn hf hto hat pm N y (h2, d2)).1, r0 + (lpF k om hn hf hto hat pm N y (h2, d2)).2) → y.1 13 = nI r0 → mW Γ.1 vwCl A L (rM Γ L (sH y (h2, d2))) H → va_S A s.heap H locs → lv_has ls 4 [(0, .ref (L (.inl 0))), (1, .int a)] → W p l e { frames := 8, cells := 0, slots := 0, locals := 187 } s m args below meth c H locs 0 0 (MQ below (mQi Γ (fun r L1 M1 => ∃ (y : RS) (q : PL), L1 = L ∧ M1 = rM Γ L (sH y q) ∧ jk x y ∧ (∀ i, i < 40 → r_dp (y.2.1 11 i)) ∧ (r < 0 → 0 < om ∧ jE y (p_begin (pm k) h) ∧ ∀ i, i < om → ¬ y.2.1 11 i < 0 → Cl y k om hn hf hto hat pm i) ∧ r = jv (jF k om hn hf hto hat pm x h).1 ∧ y.1 13 = nI (jF k om hn hf hto hat pm x h).2) A) args s 0 0 A) (F0 m 31 ls []) := by
    clear hR hw hS hl
    intro N
    induction N with
    | zero =>
      intro r0 y h2 d2 cb H locs ls hN hR h0 hdp hcb hjk hE hcl hL h13 hw hS hl
      refine lv_aload_n hx hb dX10_wrongJoined_31 rfl (lv_at hl 0 rfl) ?_
      refine h_get16 X hw dX10_wrongJoined_32 ?_
      refine lv_if_eq (tgt := 128) hx hb dX10_wrongJoined_35 (by decide) (fun c_1 => ?_) (fun c_1 => ?_)
      · skip
        refine lv_iconst (v := (-1)) hx hb dX10_wrongJoined_128 (by decide) ?_
        exact m_iret X hr hlk hw hS (Nat.zero_le _) (Nat.zero_le _) ⟨y, (h2, d2), rfl, rfl, hjk, hdp, fun _ => ⟨h0, hE, hcl (bI_f (hcb.symm.trans c_1))⟩, (by rw [hL, lp_0 c_1]; rfl), (by rw [hL, lp_0 c_1]; exact h13)⟩ dX10_wrongJoined_129
      · skip
        exact absurd (hN (bI_t (fun z => c_1 (hcb.trans z)))) (Nat.not_lt_zero _)
    | succ N ih =>
      intro r0 y h2 d2 cb H locs ls hN hR h0 hdp hcb hjk hE hcl hL h13 hw hS hl
      have K55 : ∀ (u i : Nat) (j : Int32) (y2 : RS) (h3 : Nat → Int32) (d3 : Nat) (c3 : Bool) (H : Heap) (locs : List Loc) (ls : Array Slot), i + u = om → j = nI i → RC y2 k om hn hf hto hat hwh pm → (∀ i, i < 40 → r_dp (y2.2.1 11 i)) → y2.1 16 = bI c3 → jk x y2 → jE y2 (p_begin (pm k) h) → (c3 = true → yrk y2 < N) → yrk y2 ≤ N → (c3 = false → ∀ i9, i9 < i → ¬ y2.2.1 11 i9 < 0 → Cl y2 k om hn hf hto hat pm i9) → ¬ y.1 16 = 0 → rdF k om hn hf hto hat pm om 0 (sS (sS y 16 0) 13 (y.1 13 + 1)) (h2, d2) = rdF k om hn hf hto hat pm u i y2 (h3, d3) → y2.1 13 = nI (r0 + 1) → mW Γ.1 vwCl A L (rM Γ L (sH y2 (h3, d3))) H → va_S A s.heap H locs → lv_has ls 4 [(2, .int j), (0, .ref (L (.inl 0))), (1, .int a)] → W p l e { frames := 8, cells := 0, slots := 0, locals := 187 } s m args below meth c H locs 0 0 (MQ below (mQi Γ (fun r L1 M1 => ∃ (y : RS) (q : PL), L1 = L ∧ M1 = rM Γ L (sH y q) ∧ jk x y ∧ (∀ i, i < 40 → r_dp (y.2.1 11 i)) ∧ (r < 0 → 0 < om ∧ jE y (p_begin (pm k) h) ∧ ∀ i, i < om → ¬ y.2.1 11 i < 0 → Cl y k om hn hf hto hat pm i) ∧ r = jv (jF k om hn hf hto hat pm x h).1 ∧ y.1 13 = nI (jF k om hn hf hto hat pm x h).2) A) args s 0 0 A) (F0 m 55 ls []) := by
        clear hR hw hS hl hN hdp hcb hjk hE hcl h13
        intro u
        induction u with
        | zero =>
          intro i j y2 h3 d3 c3 H locs ls hu hj hR hdp hcb hjk hE hN hNe hcl hfl hRd h13 hw hS hl
          refine lv_iload_n hx hb dX10_wrongJoined_55 rfl (lv_at hl 0 rfl) ?_
          refine lv_aload_n hx hb dX10_wrongJoined_56 rfl (lv_at hl 1 rfl) ?_
          refine r_get2 X hw dX10_wrongJoined_57 ?_
          refine lv_iload_n hx hb dX10_wrongJoined_60 rfl (lv_at hl 2 rfl) ?_
          refine h_ald2 (n := k) X hw ha (by omega) dX10_wrongJoined_61 ?_
          refine lv_icmp_ge (tgt := 125) hx hb dX10_wrongJoined_62 (by decide) (fun c_2 => ?_) (fun c_2 => ?_)
          · skip
            have c_2n : i ≥ om := ngeT (a := i) (b := om) hj hR.1 (by omega) (by omega) c_2
            have c_2m : ¬ i < om := by omega
            refine lv_goto (tgt := 31) hx hb dX10_wrongJoined_125 (by decide) ?_
            exact ih (r0 + 1) y2 h3 d3 c3 H locs ls hN hR h0 hdp hcb hjk hE (fun z i9 h9 => hcl z i9 (by omega)) (by rw [hL, lp_s hfl (hRd.trans rfl)]; exact Prod.ext rfl (by show r0 + (_ + 1) = r0 + 1 + _; omega)) h13 hw hS (lv_sub hl [1, 2] rfl)
          · skip
            have c_2n : ¬ i ≥ om := ngeF (a := i) (b := om) hj hR.1 (by omega) (by omega) c_2
            have c_2m : i < om := by omega
            exact absurd hu (by omega)
        | succ u ih2 =>
          intro i j y2 h3 d3 c3 H locs ls hu hj hR hdp hcb hjk hE hN hNe hcl hfl hRd h13 hw hS hl
          have K79 : ∀ (u2 t2 e1_ : Nat) (j2 : Int32) (y3 : RS) (H : Heap) (locs : List Loc) (ls : Array Slot), t2 + u2 = 8 → j2 = nI t2 → y2.2.1 11 i = nI e1_ → e1_ ≤ 8 → cR y2 y3 i t2 → y3 = cmF y2 i t2 → mW Γ.1 vwCl A L (rM Γ L (sH y3 (h3, d3))) H → va_S A s.heap H locs → lv_has ls 4 [(3, .int j2), (2, .int j), (0, .ref (L (.inl 0))), (1, .int a)] → W p l e { frames := 8, cells := 0, slots := 0, locals := 187 } s m args below meth c H locs 0 0 (MQ below (mQi Γ (fun r L1 M1 => ∃ (y : RS) (q : PL), L1 = L ∧ M1 = rM Γ L (sH y q) ∧ jk x y ∧ (∀ i, i < 40 → r_dp (y.2.1 11 i)) ∧ (r < 0 → 0 < om ∧ jE y (p_begin (pm k) h) ∧ ∀ i, i < om → ¬ y.2.1 11 i < 0 → Cl y k om hn hf hto hat pm i) ∧ r = jv (jF k om hn hf hto hat pm x h).1 ∧ y.1 13 = nI (jF k om hn hf hto hat pm x h).2) A) args s 0 0 A) (F0 m 79 ls []) := by
            clear hw hS hl
            intro u2
            induction u2 with
            | zero =>
              intro t2 e1_ j2 y3 H locs ls ht2 hj2 he1 he8 hcr hcx hw hS hl
              have e8 : t2 = 8 := by omega
              rw [e8] at hcr hcx
              have he0 := he1
              obtain ⟨hcb, hj0, hR, he1, hcm⟩ := hcr.to hcb hR he1
              have hio : i < om := by omega
              refine lv_iload_n hx hb dX10_wrongJoined_79 rfl (lv_at hl 0 rfl) ?_
              refine lv_bipush (v := 8) hx hb dX10_wrongJoined_80 (by decide) ?_
              refine lv_icmp_ge (tgt := 108) hx hb dX10_wrongJoined_82 (by decide) (fun c_3 => ?_) (fun c_3 => ?_)
              · skip
                have c_3n : t2 ≥ 8 := ngeT (a := t2) (b := 8) hj2 rfl (by omega) (by omega) c_3
                have c_3m : ¬ t2 < 8 := by omega
                refine lv_aload_n hx hb dX10_wrongJoined_108 rfl (lv_at hl 2 rfl) ?_
                refine lv_iload_n hx hb dX10_wrongJoined_109 rfl (lv_at hl 3 rfl) ?_
                refine lv_iload_n hx hb dX10_wrongJoined_110 rfl (lv_at hl 1 rfl) ?_
                refine m_calli (m_runV (i := .inl 0) (ci := 8) (As := [.int a, .int j]) (rest := []) X (k_X10_goesOn Γ l L y3 h3 d3 a j k om hn i e1_ hf hto hat hwh pm c3 ha hk hj (by omega) hR he1 he8 hcb hcm) v_X10_goesOn ml_X10_228 hw hS rfl rfl rfl rfl hl.1 ⟨Nat.le_of_ble_eq_true rfl, Nat.le_of_ble_eq_true rfl⟩ (Nat.le_of_ble_eq_true rfl) ⟨Nat.le_of_ble_eq_true rfl, Nat.le_of_ble_eq_true rfl⟩ dX10_wrongJoined_111) hS (fun r_4 L1 M1 H locs hp_4 hw hS => ?_)
                obtain ⟨t_4, y_4, q_4, c_4, er_4, e1, e2, hj_4, hcl_4, hgo_4⟩ := hp_4
                rw [e1, e2] at hw; clear e1 e2
                subst er_4
                refine lv_if_ne (tgt := 119) hx hb dX10_wrongJoined_114 (by decide) (fun c_5 => ?_) (fun c_5 => ?_)
                · skip
                  have c_5 := bI_t c_5
                  refine lv_iinc (v := j + 1) (lv' := [(2, .int (j + 1)), (3, .int j2), (0, .ref (L (.inl 0))), (1, .int a)]) hx hb dX10_wrongJoined_119 hl (k := 1) rfl rfl (by decide) rfl (fun ls hl => ?_)
                  refine lv_goto (tgt := 55) hx hb dX10_wrongJoined_122 (by decide) ?_
                  exact ih2 (i + 1) _ _ _ _ _ H locs ls (by omega) (nadd (a := i) (b := 1) hj rfl) (RC_jk hj_4.1 hR) (hj_4.2.2.2.2.2.2.1 (hcr.dp hdp)) hj_4.2.1 (hjk.tr (hj0.tr hj_4.1)) (jE_gr (hcr.rg.tr hj_4.2.2.2.2.2.2.2.2.2) hE) (fun z => jrk hj_4 z hcr.rk hN hNe) (Nat.le_trans hj_4.2.2.2.2.1 (by rw [hcr.rk]; exact hNe)) (fun z => jcl (hj_4.back z) (hj_4.2.2.2.1 z) hj_4.1 hcr ho40 (by omega) hcl (hcl_4 (by assumption) z)) hfl (hRd.trans (rd_t hcx he0 he8 (by rw [← show t_4 = true by assumption]; exact hgo_4))) ((hj_4.2.2.2.2.2.2.2.2.1.trans (by rw [hcr.2.1])).trans h13) hw hS (lv_sub hl [0, 2, 3] rfl)
                · skip
                  have c_5 := bI_f c_5
                  refine lv_iload_n hx hb dX10_wrongJoined_117 rfl (lv_at hl 1 rfl) ?_
                  exact m_iret X hr hlk hw hS (Nat.zero_le _) (Nat.zero_le _) ⟨y_4, (q_4.1, q_4.2), rfl, rfl, hjk.tr (hj0.tr hj_4.1), hj_4.2.2.2.2.2.2.1 (hcr.dp hdp), fun z => absurd z (by rw [hj]; exact nI_n0 (by omega)), (by rw [hL, lp_i hfl (show _ = some i by rw [hRd]; exact rd_f hcx he0 he8 (by rw [← show t_4 = false by assumption]; exact hgo_4))]; exact hj), (by rw [hL, lp_i hfl (show _ = some i by rw [hRd]; exact rd_f hcx he0 he8 (by rw [← show t_4 = false by assumption]; exact hgo_4))]; exact (hj_4.2.2.2.2.2.2.2.2.1.trans (by rw [hcr.2.1])).trans h13)⟩ dX10_wrongJoined_118
              · skip
                have c_3n : ¬ t2 ≥ 8 := ngeF (a := t2) (b := 8) hj2 rfl (by omega) (by omega) c_3
                have c_3m : t2 < 8 := by omega
                exact absurd ht2 (by omega)
            | succ u2 ih3 =>
              intro t2 e1_ j2 y3 H locs ls ht2 hj2 he1 he8 hcr hcx hw hS hl
              refine lv_iload_n hx hb dX10_wrongJoined_79 rfl (lv_at hl 0 rfl) ?_
              refine lv_bipush (v := 8) hx hb dX10_wrongJoined_80 (by decide) ?_
              refine lv_icmp_ge (tgt := 108) hx hb dX10_wrongJoined_82 (by decide) (fun c_6 => ?_) (fun c_6 => ?_)
              · skip
                have c_6n : t2 ≥ 8 := ngeT (a := t2) (b := 8) hj2 rfl (by omega) (by omega) c_6
                have c_6m : ¬ t2 < 8 := by omega
                exact absurd ht2 (by omega)
              · skip
                have c_6n : ¬ t2 ≥ 8 := ngeF (a := t2) (b := 8) hj2 rfl (by omega) (by omega) c_6
                have c_6m : t2 < 8 := by omega
                refine lv_aload_n hx hb dX10_wrongJoined_85 rfl (lv_at hl 2 rfl) ?_
                refine r_get17 X hw dX10_wrongJoined_86 ?_
                refine lv_iload_n hx hb dX10_wrongJoined_89 rfl (lv_at hl 0 rfl) ?_
                refine lv_aload_n hx hb dX10_wrongJoined_90 rfl (lv_at hl 2 rfl) ?_
                refine r_get12 X hw dX10_wrongJoined_91 ?_
                refine lv_bipush (v := 16) hx hb dX10_wrongJoined_94 (by decide) ?_
                refine lv_iload_n hx hb dX10_wrongJoined_96 rfl (lv_at hl 1 rfl) ?_
                refine lv_imul hx hb dX10_wrongJoined_97 ?_
                refine lv_iload_n hx hb dX10_wrongJoined_98 rfl (lv_at hl 0 rfl) ?_
                refine lv_iadd hx hb dX10_wrongJoined_99 ?_
                refine h_ald12 (n := (16 * i) + t2) X hw (nadd (a := 16 * i) (b := t2) (nmul (a := 16) (b := i) rfl hj) hj2) (by omega) dX10_wrongJoined_100 ?_
                refine h_ast17 (n := t2) X hw hS hj2 (by omega) dX10_wrongJoined_101 (fun H locs hw hS => ?_)
                refine lv_iinc (v := j2 + 1) (lv' := [(3, .int (j2 + 1)), (2, .int j), (0, .ref (L (.inl 0))), (1, .int a)]) hx hb dX10_wrongJoined_102 hl (k := 0) rfl rfl (by decide) rfl (fun ls hl => ?_)
                refine lv_goto (tgt := 79) hx hb dX10_wrongJoined_105 (by decide) ?_
                exact ih3 (t2 + 1) e1_ _ _ H locs ls (by omega) (nadd (a := t2) (b := 1) hj2 rfl) he1 he8 hcr.st (cmF_s hcx) hw hS hl
          refine lv_iload_n hx hb dX10_wrongJoined_55 rfl (lv_at hl 0 rfl) ?_
          refine lv_aload_n hx hb dX10_wrongJoined_56 rfl (lv_at hl 1 rfl) ?_
          refine r_get2 X hw dX10_wrongJoined_57 ?_
          refine lv_iload_n hx hb dX10_wrongJoined_60 rfl (lv_at hl 2 rfl) ?_
          refine h_ald2 (n := k) X hw ha (by omega) dX10_wrongJoined_61 ?_
          refine lv_icmp_ge (tgt := 125) hx hb dX10_wrongJoined_62 (by decide) (fun c_7 => ?_) (fun c_7 => ?_)
          · skip
            have c_7n : i ≥ om := ngeT (a := i) (b := om) hj hR.1 (by omega) (by omega) c_7
            have c_7m : ¬ i < om := by omega
            refine lv_goto (tgt := 31) hx hb dX10_wrongJoined_125 (by decide) ?_
            exact absurd hu (by omega)
          · skip
            have c_7n : ¬ i ≥ om := ngeF (a := i) (b := om) hj hR.1 (by omega) (by omega) c_7
            have c_7m : i < om := by omega
            refine lv_aload_n hx hb dX10_wrongJoined_65 rfl (lv_at hl 1 rfl) ?_
            refine r_get11 X hw dX10_wrongJoined_66 ?_
            refine lv_iload_n hx hb dX10_wrongJoined_69 rfl (lv_at hl 0 rfl) ?_
            refine h_ald11 (n := i) X hw hj (by omega) dX10_wrongJoined_70 ?_
            refine lv_if_ge (tgt := 77) hx hb dX10_wrongJoined_71 (by decide) (fun c_8 => ?_) (fun c_8 => ?_)
            · skip
              obtain ⟨e1_, he8, he1⟩ := r_dp_nat (hdp i (by omega)) (Int32.not_lt.mpr c_8)
              refine lv_iconst (v := 0) hx hb dX10_wrongJoined_77 (by decide) ?_
              refine lv_istore_n (lv' := [(3, .int 0), (2, .int j), (0, .ref (L (.inl 0))), (1, .int a)]) hx hb dX10_wrongJoined_78 rfl hl (by decide) rfl (fun ls hl => ?_)
              exact K79 8 0 e1_ _ y2 H locs ls rfl rfl he1 he8 cR.rf cmF_0 hw hS hl
            · skip
              refine lv_goto (tgt := 119) hx hb dX10_wrongJoined_74 (by decide) ?_
              refine lv_iinc (v := j + 1) (lv' := [(2, .int (j + 1)), (0, .ref (L (.inl 0))), (1, .int a)]) hx hb dX10_wrongJoined_119 hl (k := 0) rfl rfl (by decide) rfl (fun ls hl => ?_)
              refine lv_goto (tgt := 55) hx hb dX10_wrongJoined_122 (by decide) ?_
              exact ih2 (i + 1) _ _ _ _ _ H locs ls (by omega) (nadd (a := i) (b := 1) hj rfl) hR hdp hcb hjk hE hN hNe (fun z i9 h9 h8 => by by_cases w : i9 = i; (subst w; exact absurd (Int32.not_le.mp c_8) h8); exact hcl z i9 (by omega) h8) hfl (hRd.trans (rd_n (Int32.not_le.mp c_8))) h13 hw hS (lv_sub hl [0, 1, 2] rfl)
      refine lv_aload_n hx hb dX10_wrongJoined_31 rfl (lv_at hl 0 rfl) ?_
      refine h_get16 X hw dX10_wrongJoined_32 ?_
      refine lv_if_eq (tgt := 128) hx hb dX10_wrongJoined_35 (by decide) (fun c_9 => ?_) (fun c_9 => ?_)
      · skip
        refine lv_iconst (v := (-1)) hx hb dX10_wrongJoined_128 (by decide) ?_
        exact m_iret X hr hlk hw hS (Nat.zero_le _) (Nat.zero_le _) ⟨y, (h2, d2), rfl, rfl, hjk, hdp, fun _ => ⟨h0, hE, hcl (bI_f (hcb.symm.trans c_9))⟩, (by rw [hL, lp_0 c_9]; rfl), (by rw [hL, lp_0 c_9]; exact h13)⟩ dX10_wrongJoined_129
      · skip
        refine lv_aload_n hx hb dX10_wrongJoined_38 rfl (lv_at hl 0 rfl) ?_
        refine lv_iconst (v := 0) hx hb dX10_wrongJoined_39 (by decide) ?_
        refine h_put16 X hw hS rfl rfl dX10_wrongJoined_40 (fun H locs hw hS => ?_)
        refine lv_aload_n hx hb dX10_wrongJoined_43 rfl (lv_at hl 0 rfl) ?_
        refine lv_dup hx hb dX10_wrongJoined_44 rfl ?_
        refine h_get13 X hw dX10_wrongJoined_45 ?_
        refine lv_iconst (v := 1) hx hb dX10_wrongJoined_48 (by decide) ?_
        refine lv_iadd hx hb dX10_wrongJoined_49 ?_
        refine h_put13 X hw hS dX10_wrongJoined_50 (fun H locs hw hS => ?_)
        refine lv_iconst (v := 0) hx hb dX10_wrongJoined_53 (by decide) ?_
        refine lv_istore_n (lv' := [(2, .int 0), (0, .ref (L (.inl 0))), (1, .int a)]) hx hb dX10_wrongJoined_54 rfl hl (by decide) rfl (fun ls hl => ?_)
        exact K55 om 0 _ (sS (sS y 16 0) 13 (((sS y 16 0).1 13) + 1)) _ _ false H locs ls (by omega) rfl hR hdp (jS_16 y _) (jk_S (jk_S hjk (Or.inr (Or.inr rfl))) (Or.inl rfl)) hE (fun z => (by cases z)) (by have := hN (bI_t (fun z => c_9 (hcb.trans z))); show yrk y ≤ N; omega) (fun _ i9 h9 => absurd h9 (Nat.not_lt_zero _)) c_9 rfl (by rw [jS_13]; exact nadd (a := r0) (b := 1) h13 rfl) hw hS (lv_sub hl [0, 1, 2] rfl)
  refine lv_aload_n hx hb dX10_wrongJoined_0 rfl (lv_at hl 0 rfl) ?_
  refine lv_iload_n hx hb dX10_wrongJoined_1 rfl (lv_at hl 1 rfl) ?_
  refine m_callv (m_runV (i := .inl 0) (ci := 8) (As := [.int a]) (rest := []) X (k_X10_begins Γ l L x h d a k (pm k) ha hk (hR.2.2.2.2.2.1 k hk).1 (hR.2.2.2.2.2.1 k hk).2) v_X10_begins ml_X10_188 hw hS rfl rfl rfl rfl hl.1 ⟨Nat.le_of_ble_eq_true rfl, Nat.le_of_ble_eq_true rfl⟩ (Nat.le_of_ble_eq_true rfl) ⟨Nat.le_of_ble_eq_true rfl, Nat.le_of_ble_eq_true rfl⟩ dX10_wrongJoined_2) hS (fun L1 M1 H locs hp_10 hw hS => ?_)
  obtain ⟨e1, e2⟩ := hp_10
  rw [e1, e2] at hw; clear e1 e2
  refine lv_aload_n hx hb dX10_wrongJoined_5 rfl (lv_at hl 0 rfl) ?_
  refine lv_iconst (v := 0) hx hb dX10_wrongJoined_6 (by decide) ?_
  refine h_put13 X hw hS dX10_wrongJoined_7 (fun H locs hw hS => ?_)
  refine lv_aload_n hx hb dX10_wrongJoined_10 rfl (lv_at hl 0 rfl) ?_
  refine r_get2 X hw dX10_wrongJoined_11 ?_
  refine lv_iload_n hx hb dX10_wrongJoined_14 rfl (lv_at hl 1 rfl) ?_
  refine h_ald2 (n := k) X hw ha (by omega) dX10_wrongJoined_15 ?_
  refine lv_if_ne (tgt := 21) hx hb dX10_wrongJoined_16 (by decide) (fun c_12 => ?_) (fun c_12 => ?_)
  · skip
    have c_12n : ¬ om = 0 := nneT (a := om) (b := 0) hR.1 rfl (by omega) (by omega) c_12
    refine lv_aload_n hx hb dX10_wrongJoined_21 rfl (lv_at hl 0 rfl) ?_
    refine lv_iconst (v := 0) hx hb dX10_wrongJoined_22 (by decide) ?_
    refine m_callv (m_runV (i := .inl 0) (ci := 8) (As := [.int 0]) (rest := []) X (k_X10_sees Γ l L (sS (r_forget x) 13 0) (p_begin (pm k) h) 0 0 0 rfl (by omega)) v_X10_sees ml_X10_194 hw hS rfl rfl rfl rfl hl.1 ⟨Nat.le_of_ble_eq_true rfl, Nat.le_of_ble_eq_true rfl⟩ (Nat.le_of_ble_eq_true rfl) ⟨Nat.le_of_ble_eq_true rfl, Nat.le_of_ble_eq_true rfl⟩ dX10_wrongJoined_23) hS (fun L1 M1 H locs hp_13 hw hS => ?_)
    obtain ⟨e1, e2⟩ := hp_13
    rw [e1, e2] at hw; clear e1 e2
    refine lv_aload_n hx hb dX10_wrongJoined_26 rfl (lv_at hl 0 rfl) ?_
    refine lv_iconst (v := 1) hx hb dX10_wrongJoined_27 (by decide) ?_
    refine h_put16 X hw hS rfl rfl dX10_wrongJoined_28 (fun H locs hw hS => ?_)
    exact K31 (yrk (sS (r_sees (sS (r_forget x) 13 0) 0 (p_begin (pm k) h, 0)) 16 1) + 1) 0 (sS (r_sees (sS (r_forget x) 13 0) 0 (p_begin (pm k) h, 0)) 16 1) _ _ true H locs ls (fun _ => Nat.lt_succ_self _) hR (Nat.pos_of_ne_zero (by assumption)) (dp_see dp_forget) (jS_16t _) (jk_S (jk_see (jk_S (jk_forget x) (Or.inl rfl))) (Or.inr (Or.inr rfl))) (jE_see (sS (r_forget x) 13 0) (p_begin (pm k) h)) (fun z => (by cases z)) (by unfold jF; rw [if_neg (by assumption), Nat.zero_add]; rfl) rfl hw hS hl
  · skip
    have c_12n : om = 0 := nneF (a := om) (b := 0) hR.1 rfl (by omega) (by omega) c_12
    refine lv_iconst (v := 0) hx hb dX10_wrongJoined_19 (by decide) ?_
    exact m_iret X hr hlk hw hS (Nat.zero_le _) (Nat.zero_le _) ⟨sS (r_forget x) 13 0, (p_begin (pm k) h, 0), rfl, rfl, jk_S (jk_forget x) (Or.inl rfl), dp_forget, fun z => absurd z (by decide), (by unfold jF; rw [if_pos (by omega)]; rfl), (by unfold jF; rw [if_pos (by omega)]; exact jS_130 _)⟩ dX10_wrongJoined_20
