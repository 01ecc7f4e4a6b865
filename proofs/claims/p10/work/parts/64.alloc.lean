/-! WHAT IS MADE: a new METHOD, a new FRAME -/
theorem mW.sub {D : va_G} {cl : List vw_C} {A : Nat → Prop} {L : mI → Nat} {M M' : mM} {H : Heap} (h : mW D cl A L M H) (hs : ∀ i e, mget M' i = some e → mget M i = some e) : mW D cl A L M' H := by
  obtain ⟨ws, h1, h2, h3, h4⟩ := h
  exact ⟨ws, h1, h2, fun i e hi => h3 i e (hs i e hi), fun i j x y hx hy hxy => h4 i j x y (hs i x hx) (hs j y hy) hxy⟩
theorem cM_sub {Γ : mG} {L : mI → Nat} {c : CS} {M : mM} (h : ∀ a b e, cA Γ L c a b = some e → mget M (nm a b) = some e) : ∀ i e, mget (cM Γ L c) i = some e → mget M i = some e := by
  intro i e hi
  rcases i with k | ⟨t, a, b⟩
  · have hi : ([] : List va_E)[k]? = some e := hi
    simp at hi
  · cases t with
    | zero => exact h a b e hi
    | succ t =>
      exfalso
      have hi : (match ([cA Γ L c] : List (Nat → Nat → Option va_E))[t + 1]? with | some f => f a b | none => none) = some e := hi
      simp at hi
def addC (x : CS) (v : Int32) : CS := (fun a b => if a = cN x + 2 then (fun k => if k = 1 then v else 0) else x.1 a b, fun a b => if a = cN x + 2 then (fun _ => 0) else x.2.1 a b, fun a b => if a = cN x + 2 then (fun _ => 0) else x.2.2.1 a b, cN x + 1, fun m i => if m = cN x then false else cF x m i, cQ x)
theorem cel_old {Γ : mG} {L L' : mI → Nat} {n n' : Nat} {F F' : Nat → Nat → Bool} {Q : Nat → Option Nat} {a b : Nat} {S V : Nat → Int32} {J : Nat → Int64} (hn : ∀ m, a = m + 2 → (m < n' ↔ m < n)) (h12 : ¬ (a = 0 ∧ (b = 1 ∨ b = 2)))
    (hL0 : ∀ y, L' (nm 0 y) = L (nm 0 y)) (hL1 : ∀ y, L' (nm 1 y) = L (nm 1 y)) (hLQ : ∀ i m, Q i = some m → L' (nm (m + 2) 0) = L (nm (m + 2) 0)) (hC : ∀ m, a = m + 2 → celC Γ L' F' m b S V J = celC Γ L F m b S V J) : cel Γ L' n' F' Q a b S V J = cel Γ L n F Q a b S V J := by
  match a, h12, hn, hC with
  | 0, h12, _, _ =>
    match b, h12 with
    | 0, _ => simp only [cel, cel0, oP, hL0]
    | 1, h => exact absurd ⟨rfl, Or.inl rfl⟩ h
    | 2, h => exact absurd ⟨rfl, Or.inr rfl⟩ h
    | 3, _ => simp only [cel, cel0, oP, hL0]
    | 4, _ => simp only [cel, cel0, hL1]
    | 5, _ => simp only [cel, cel0, oP, hL0]
    | 6, _ => rfl
    | 7, _ => simp only [cel, cel0, oP, hL0]
    | 8, _ => simp only [cel, cel0, oP, hL0]
    | 9, _ => rfl
    | 10, _ => simp only [cel, cel0, oP, hL0]
    | 11, _ => simp only [cel, cel0, oP, hL0]
    | 12, _ => rfl
    | 13, _ => rfl
    | 14, _ => rfl
    | 15, _ => rfl
    | 16, _ =>
      have e : (fun i => (Q i).map (fun m => L' (nm (m + 2) 0))) = (fun i => (Q i).map (fun m => L (nm (m + 2) 0))) := by
        funext i
        cases hq : Q i with
        | none => rfl
        | some m => simp only [Option.map_some, hLQ i m hq]
      simp only [cel, cel0, e]
    | 17, _ => rfl
    | 18, _ => rfl
    | 19, _ => rfl
    | 20, _ => rfl
    | _ + 21, _ => rfl
  | 1, _, _, _ => simp only [cel, oP, hL1]
  | m + 2, _, hn, hC =>
    have e := hn m rfl
    have e2 := hC m rfl
    by_cases z : m < n
    · simp only [cel, if_pos z, if_pos (e.mpr z), e2]
    · simp only [cel, if_neg z, if_neg (fun w => z (e.mp w))]
theorem celC_old {Γ : mG} {L L' : mI → Nat} {F F' : Nat → Nat → Bool} {m b : Nat} {S V : Nat → Int32} {J : Nat → Int64} (hF : F' m = F m) (hL : ∀ y, L' (nm (m + 2) y) = L (nm (m + 2) y)) : celC Γ L' F' m b S V J = celC Γ L F m b S V J := by
  match b with
  | 0 => simp only [celC, oC, hL]
  | 1 => rfl
  | 2 => rfl
  | 3 => rfl
  | 4 => rfl
  | 5 => rfl
  | 6 => rfl
  | 7 => simp only [celC, hL, hF]
  | b + 8 => simp only [celC, oP, hL, hF]
theorem addC_sub {Γ : mG} {L L' : mI → Nat} {x : CS} {M : mM} {v : Int32} (hI : CInv x) (hL : ∀ a b, a ≠ cN x + 2 → L' (nm a b) = L (nm a b)) (ho : ∀ a b, a ≠ cN x + 2 → ¬ (a = 0 ∧ (b = 1 ∨ b = 2)) → mget M (nm a b) = mget (cM Γ L x) (nm a b))
    (h1 : mget M (nm 0 1) = some (.inr (5, [.ref (L' (nm 0 2)), .int (nI (cN x + 1))]))) (h2 : mget M (nm 0 2) = some (aR Γ 3 8 (va_up (fun i => if i < cN x then some (L (nm (i + 2) 0)) else none) (cN x) (some (L' (nm (cN x + 2) 0))))))
    (g0 : mget M (nm (cN x + 2) 0) = some (.inr (0, [.int (nI (cN x)), .int v, .ref (L' (nm (cN x + 2) 1)), .ref (L' (nm (cN x + 2) 2)), .int 0, .ref (L' (nm (cN x + 2) 3)), .ref (L' (nm (cN x + 2) 4)), .ref (L' (nm (cN x + 2) 5)), .ref (L' (nm (cN x + 2) 6)), .int 0, .ref (L' (nm (cN x + 2) 7)), .int 0])))
    (g1 : mget M (nm (cN x + 2) 1) = some (aI Γ 40 (fun _ => 0))) (g2 : mget M (nm (cN x + 2) 2) = some (aJ Γ 40 (fun _ => 0))) (g3 : mget M (nm (cN x + 2) 3) = some (aI Γ 6 (fun _ => 0))) (g4 : mget M (nm (cN x + 2) 4) = some (aI Γ 6 (fun _ => 0))) (g5 : mget M (nm (cN x + 2) 5) = some (aI Γ 6 (fun _ => 0))) (g6 : mget M (nm (cN x + 2) 6) = some (aI Γ 6 (fun _ => 0))) (g7 : mget M (nm (cN x + 2) 7) = some (aR Γ 4 40 (fun _ => none))) :
    ∀ i e, mget (cM Γ L' (addC x v)) i = some e → mget M i = some e := by
  apply cM_sub
  intro a b e he
  by_cases za : a = cN x + 2
  · subst za
    have he : (if cN x < cN x + 1 then celC Γ L' (cF (addC x v)) (cN x) b ((addC x v).1 (cN x + 2) b) ((addC x v).2.1 (cN x + 2) b) ((addC x v).2.2.1 (cN x + 2) b) else none) = some e := he
    rw [if_pos (by omega)] at he
    have eS : (addC x v).1 (cN x + 2) b = (fun k => if k = 1 then v else 0) := by show (if cN x + 2 = cN x + 2 then _ else _) = _; rw [if_pos rfl]
    have eV : (addC x v).2.1 (cN x + 2) b = (fun _ => 0) := by show (if cN x + 2 = cN x + 2 then _ else _) = _; rw [if_pos rfl]
    have eJ : (addC x v).2.2.1 (cN x + 2) b = (fun _ => 0) := by show (if cN x + 2 = cN x + 2 then _ else _) = _; rw [if_pos rfl]
    have eF : ∀ i, cF (addC x v) (cN x) i = false := fun i => by show (if cN x = cN x then false else _) = false; rw [if_pos rfl]
    rw [eS, eV, eJ] at he
    match b, he with
    | 0, he => rw [g0]; exact he
    | 1, he => rw [g1]; exact he
    | 2, he => rw [g2]; exact he
    | 3, he => rw [g3]; exact he
    | 4, he => rw [g4]; exact he
    | 5, he => rw [g5]; exact he
    | 6, he => rw [g6]; exact he
    | 7, he =>
      rw [g7, ← he]
      simp only [celC, eF]
      rfl
    | b + 8, he =>
      exfalso
      simp only [celC, eF] at he
      simp at he
  · have eS : (addC x v).1 a b = x.1 a b := by show (if a = cN x + 2 then _ else _) = _; rw [if_neg za]
    have eV : (addC x v).2.1 a b = x.2.1 a b := by show (if a = cN x + 2 then _ else _) = _; rw [if_neg za]
    have eJ : (addC x v).2.2.1 a b = x.2.2.1 a b := by show (if a = cN x + 2 then _ else _) = _; rw [if_neg za]
    by_cases zb : a = 0 ∧ (b = 1 ∨ b = 2)
    · obtain ⟨rfl, rfl | rfl⟩ := zb
      · rw [h1]; exact he
      · rw [h2, ← he]
        show some (aR Γ 3 8 _) = some (aR Γ 3 8 (fun i => if i < cN x + 1 then some (L' (nm (i + 2) 0)) else none))
        have e3 : va_up (fun i => if i < cN x then some (L (nm (i + 2) 0)) else none) (cN x) (some (L' (nm (cN x + 2) 0))) = (fun i => if i < cN x + 1 then some (L' (nm (i + 2) 0)) else none) := by
          funext i
          by_cases q1 : i = cN x
          · subst q1
            simp [va_up]
          · simp only [va_up, if_neg q1]
            by_cases q2 : i < cN x
            · rw [if_pos q2, if_pos (by omega), hL (i + 2) 0 (by omega)]
            · rw [if_neg q2, if_neg (by omega)]
        rw [e3]
    · rw [ho a b za zb, cM_get]
      have he : cel Γ L' (cN x + 1) (cF (addC x v)) (cQ x) a b ((addC x v).1 a b) ((addC x v).2.1 a b) ((addC x v).2.2.1 a b) = some e := he
      rw [eS, eV, eJ] at he
      show cel Γ L (cN x) (cF x) (cQ x) a b (x.1 a b) (x.2.1 a b) (x.2.2.1 a b) = some e
      rw [← he]
      refine (cel_old (fun m hm => by omega) zb (fun y => hL 0 y (by omega)) (fun y => hL 1 y (by omega)) (fun i m hq => hL (m + 2) 0 (by have := hI.2.2.2.2.2.2 i m hq; omega)) (fun m hm => celC_old ?_ (fun y => hL (m + 2) y (by omega)))).symm
      funext i
      show (if m = cN x then false else cF x m i) = cF x m i
      rw [if_neg (by omega)]
theorem addC_inv {x : CS} {v : Int32} {k : Nat} (hI : CInv x) (hn : cN x < 8) (hv : v = nI k) (hk : k ≤ 4) : CInv (addC x v) := by
  obtain ⟨i1, i2, i3, i4, i5, i6, i7⟩ := hI
  have rd : ∀ a b, a ≠ cN x + 2 → (addC x v).1 a b = x.1 a b := fun a b h => by show (if a = cN x + 2 then _ else _) = _; rw [if_neg h]
  have rdn : ∀ b, (addC x v).1 (cN x + 2) b = (fun k => if k = 1 then v else 0) := fun b => by show (if cN x + 2 = cN x + 2 then _ else _) = _; rw [if_pos rfl]
  refine ⟨show cN x + 1 ≤ 8 by omega, fun m hm => ?_, fun a b hp => ?_, ?_, ?_, ?_, fun i m hq => ?_⟩
  · have hm : m < cN x + 1 := hm
    by_cases z : m = cN x
    · subst z
      rw [rdn 0]
      exact ⟨⟨k, hk, by show (if (1 : Nat) = 1 then v else 0) = nI k; rw [if_pos rfl]; exact hv⟩, ⟨0, by omega, by show (if (4 : Nat) = 1 then v else 0) = nI 0; rw [if_neg (by decide)]; rfl⟩, ⟨0, by omega, by show (if (9 : Nat) = 1 then v else 0) = nI 0; rw [if_neg (by decide)]; rfl⟩⟩
    · rw [rd (m + 2) 0 (by omega)]
      exact i2 m (by omega)
  · rcases hp with ⟨rfl, h⟩ | ⟨rfl, h1, h2⟩ | ⟨h1, h2, h3, h4, h5, h6⟩
    · rw [rd 0 b (by omega)]
      exact i3 0 b (Or.inl ⟨rfl, h⟩)
    · rw [rd 1 b (by omega)]
      exact i3 1 b (Or.inr (Or.inl ⟨rfl, h1, h2⟩))
    · have h2 : a < cN x + 1 + 2 := h2
      have h6 : (if a - 2 = cN x then false else cF x (a - 2) ((b - 8) / 2)) = true := h6
      by_cases z : a - 2 = cN x
      · rw [if_pos z] at h6; cases h6
      · rw [if_neg z] at h6
        rw [rd a b (by omega)]
        exact i3 a b (Or.inr (Or.inr ⟨h1, by omega, h3, h4, h5, h6⟩))
  · rw [rd 0 10 (by omega)]; exact i4
  · rw [rd 0 11 (by omega)]; exact i5
  · intro i hi
    have e : (addC x v).2.1 0 13 = x.2.1 0 13 := by
      show (if 0 = cN x + 2 then (fun _ => 0) else x.2.1 0 13) = _
      rw [if_neg (by omega)]
    rw [e]
    exact i6 i hi
  · have := i7 i m hq
    show m < cN x + 1
    omega
def addF (x : CS) (cm k : Nat) : CS := (up3 x.1 (cm + 2) (2 * k + 8) (upd (x.1 (cm + 2) (2 * k + 8)) 1 (-1)), up3 x.2.1 (cm + 2) (2 * k + 9) (fun _ => 0), x.2.2.1, cN x, fun m i => if m = cm ∧ i = k then true else cF x m i, cQ x)
theorem addF_sub {Γ : mG} {L L' : mI → Nat} {x : CS} {M : mM} {cm k : Nat} (hm : cm < cN x) (hk : k < 40) (hL : ∀ a b, ¬ (a = cm + 2 ∧ (b = 2 * k + 8 ∨ b = 2 * k + 9)) → L' (nm a b) = L (nm a b)) (ho : ∀ a b, ¬ (a = cm + 2 ∧ (b = 7 ∨ b = 2 * k + 8 ∨ b = 2 * k + 9)) → mget M (nm a b) = mget (cM Γ L x) (nm a b))
    (h7 : mget M (nm (cm + 2) 7) = some (aR Γ 4 40 (va_up (fun i => if cF x cm i = true then some (L (nm (cm + 2) (2 * i + 8))) else none) k (some (L' (nm (cm + 2) (2 * k + 8))))))) (h8 : mget M (nm (cm + 2) (2 * k + 8)) = some (oP L' (cm + 2) (2 * k + 8) (-1))) (h9 : mget M (nm (cm + 2) (2 * k + 9)) = some (aI Γ 16 (fun _ => 0))) :
    ∀ i e, mget (cM Γ L' (addF x cm k)) i = some e → mget M i = some e := by
  apply cM_sub
  intro a b e he
  have eN : cN (addF x cm k) = cN x := rfl
  have eF : ∀ m i, cF (addF x cm k) m i = (if m = cm ∧ i = k then true else cF x m i) := fun _ _ => rfl
  by_cases z7 : a = cm + 2 ∧ b = 7
  · obtain ⟨rfl, rfl⟩ := z7
    have he : (if cm < cN x then celC Γ L' (cF (addF x cm k)) cm 7 ((addF x cm k).1 (cm + 2) 7) ((addF x cm k).2.1 (cm + 2) 7) ((addF x cm k).2.2.1 (cm + 2) 7) else none) = some e := he
    rw [if_pos hm] at he
    rw [h7, ← he]
    show some (aR Γ 4 40 _) = some (aR Γ 4 40 (fun i => if cF (addF x cm k) cm i = true then some (L' (nm (cm + 2) (2 * i + 8))) else none))
    have e3 : va_up (fun i => if cF x cm i = true then some (L (nm (cm + 2) (2 * i + 8))) else none) k (some (L' (nm (cm + 2) (2 * k + 8)))) = (fun i => if cF (addF x cm k) cm i = true then some (L' (nm (cm + 2) (2 * i + 8))) else none) := by
      funext i
      by_cases q1 : i = k
      · subst q1
        simp [va_up, eF]
      · have e8 : cF (addF x cm k) cm i = cF x cm i := by rw [eF, if_neg (fun z => q1 z.2)]
        simp only [va_up, if_neg q1]
        rw [e8]
        by_cases q2 : cF x cm i = true
        · rw [if_pos q2, if_pos q2, hL _ _ (by omega)]
        · rw [if_neg q2, if_neg q2]
    rw [e3]
  · by_cases z8 : a = cm + 2 ∧ b = 2 * k + 8
    · obtain ⟨rfl, rfl⟩ := z8
      have hp : pOK (addF x cm k) (cm + 2) (2 * k + 8) := pOF hm hk (by rw [eF, if_pos ⟨rfl, rfl⟩])
      have he : cel Γ L' (cN (addF x cm k)) (cF (addF x cm k)) (cQ (addF x cm k)) (cm + 2) (2 * k + 8) ((addF x cm k).1 (cm + 2) (2 * k + 8)) ((addF x cm k).2.1 (cm + 2) (2 * k + 8)) ((addF x cm k).2.2.1 (cm + 2) (2 * k + 8)) = some e := he
      rw [p_cell hp] at he
      rw [h8, ← he]
      have e4 : (addF x cm k).1 (cm + 2) (2 * k + 8) 1 = -1 := by
        show up3 x.1 (cm + 2) (2 * k + 8) _ (cm + 2) (2 * k + 8) 1 = -1
        rw [up3_self]
        simp [upd]
      rw [e4]
    · by_cases z9 : a = cm + 2 ∧ b = 2 * k + 9
      · obtain ⟨rfl, rfl⟩ := z9
        have hp : pOK (addF x cm k) (cm + 2) (2 * k + 8) := pOF hm hk (by rw [eF, if_pos ⟨rfl, rfl⟩])
        have he : cel Γ L' (cN (addF x cm k)) (cF (addF x cm k)) (cQ (addF x cm k)) (cm + 2) (2 * k + 8 + 1) ((addF x cm k).1 (cm + 2) (2 * k + 9)) ((addF x cm k).2.1 (cm + 2) (2 * k + 9)) ((addF x cm k).2.2.1 (cm + 2) (2 * k + 9)) = some e := he
        rw [p_cell1 hp] at he
        rw [h9, ← he]
        have e4 : (addF x cm k).2.1 (cm + 2) (2 * k + 9) = (fun _ => 0) := by
          show up3 x.2.1 (cm + 2) (2 * k + 9) _ (cm + 2) (2 * k + 9) = _
          rw [up3_self]
        rw [e4]
      · rw [ho a b (by omega), cM_get]
        have eS : (addF x cm k).1 a b = x.1 a b := up3_ne z8
        have eV : (addF x cm k).2.1 a b = x.2.1 a b := up3_ne z9
        have he : cel Γ L' (cN x) (cF (addF x cm k)) (cQ x) a b ((addF x cm k).1 a b) ((addF x cm k).2.1 a b) (x.2.2.1 a b) = some e := he
        rw [eS, eV] at he
        show cel Γ L (cN x) (cF x) (cQ x) a b (x.1 a b) (x.2.1 a b) (x.2.2.1 a b) = some e
        rw [← he]
        by_cases zz : a = 0 ∧ (b = 1 ∨ b = 2)
        · obtain ⟨rfl, rfl | rfl⟩ := zz
          · show some _ = some _
            rw [hL 0 2 (by omega)]
          · show some (aR Γ 3 8 _) = some (aR Γ 3 8 _)
            have e5 : (fun i => if i < cN x then some (L (nm (i + 2) 0)) else none) = (fun i => if i < cN x then some (L' (nm (i + 2) 0)) else none) := by
              funext i
              rw [hL (i + 2) 0 (by omega)]
            rw [e5]
        · refine (cel_old (fun m _ => Iff.rfl) zz (fun y => hL 0 y (by omega)) (fun y => hL 1 y (by omega)) (fun i m _ => hL (m + 2) 0 (by omega)) (fun m ha => ?_)).symm
          subst ha
          by_cases q : m = cm
          · subst q
            match b, z7, z8, z9 with
            | 0, _, _, _ => simp only [celC, oC, hL (m + 2) 1 (by omega), hL (m + 2) 2 (by omega), hL (m + 2) 3 (by omega), hL (m + 2) 4 (by omega), hL (m + 2) 5 (by omega), hL (m + 2) 6 (by omega), hL (m + 2) 7 (by omega)]
            | 1, _, _, _ => rfl
            | 2, _, _, _ => rfl
            | 3, _, _, _ => rfl
            | 4, _, _, _ => rfl
            | 5, _, _, _ => rfl
            | 6, _, _, _ => rfl
            | 7, z7, _, _ => exact absurd ⟨rfl, rfl⟩ z7
            | b + 8, _, z8, z9 =>
              have hbk : b / 2 ≠ k := by
                intro e
                by_cases ev : b % 2 = 0
                · exact z8 ⟨rfl, by omega⟩
                · exact z9 ⟨rfl, by omega⟩
              have e6 : cF (addF x m k) m (b / 2) = cF x m (b / 2) := by rw [eF, if_neg (fun z => hbk z.2)]
              have e7 : b % 2 = 0 → L' (nm (m + 2) (b + 8 + 1)) = L (nm (m + 2) (b + 8 + 1)) := fun ev => hL _ _ (by omega)
              simp only [celC, oP, e6]
              by_cases ev : b % 2 = 0
              · rw [if_pos ev, if_pos ev, e7 ev]
              · rw [if_neg ev, if_neg ev]
          · refine celC_old ?_ (fun y => hL (m + 2) y (by omega))
            funext i
            rw [eF, if_neg (fun z => q z.1)]
theorem addF_inv {x : CS} {cm k : Nat} (hI : CInv x) : CInv (addF x cm k) := by
  obtain ⟨i1, i2, i3, i4, i5, i6, i7⟩ := hI
  have rd : ∀ a b, ¬ (a = cm + 2 ∧ b = 2 * k + 8) → (addF x cm k).1 a b = x.1 a b := fun a b h => up3_ne h
  refine ⟨i1, fun m hm => ?_, fun a b hp => ?_, ?_, ?_, ?_, i7⟩
  · rw [rd (m + 2) 0 (by omega)]
    exact i2 m hm
  · by_cases z : a = cm + 2 ∧ b = 2 * k + 8
    · obtain ⟨rfl, rfl⟩ := z
      refine Or.inl ?_
      show up3 x.1 (cm + 2) (2 * k + 8) _ (cm + 2) (2 * k + 8) 1 = -1
      rw [up3_self]
      simp [upd]
    · rw [rd a b z]
      apply i3
      rcases hp with h | h | ⟨h1, h2, h3, h4, h5, h6⟩
      · exact Or.inl h
      · exact Or.inr (Or.inl h)
      · refine Or.inr (Or.inr ⟨h1, h2, h3, h4, h5, ?_⟩)
        have h6 : (if a - 2 = cm ∧ (b - 8) / 2 = k then true else cF x (a - 2) ((b - 8) / 2)) = true := h6
        rw [if_neg (by omega)] at h6
        exact h6
  · rw [rd 0 10 (by omega)]; exact i4
  · rw [rd 0 11 (by omega)]; exact i5
  · intro i hi
    have e : (addF x cm k).2.1 0 13 = x.2.1 0 13 := by
      show up3 x.2.1 (cm + 2) (2 * k + 9) (fun _ => 0) 0 13 = _
      exact up3_ne (by omega)
    rw [e]
    exact i6 i hi
