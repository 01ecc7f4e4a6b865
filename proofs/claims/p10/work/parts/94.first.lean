/-! THE CLASS'S FIRST STATE -/
theorem arrV_ext {cA : ClassId} {n : Nat} {f g : Nat → Value} (h : ∀ j, j < n → f j = g j) : arrV cA n f = arrV cA n g := by
  unfold arrV
  congr 1
  first
  | (apply congrArg; apply Array.ext' <;> simp_all; done)
  | (simp only [Array.ofFn]; congr 1; funext j; exact h j.1 j.2)
  | (congr 1; funext j; exact h j.1 j.2)
  | (congr 1; apply List.map_congr_left; intro j hj; exact h j (List.mem_range.mp hj))
theorem mW_ext {D : va_G} {cl : List vw_C} {A : Nat → Prop} {L : mI → Nat} {M : mM} {H : Heap} {i : mI} {cA : ClassId} {n : Nat} {g g' : Nat → Option Nat} (h : mW D cl A L M H) (hi : mget M i = some (.inl (cA, n, .inr (.inr (.inr (.inr g)))))) (hg : ∀ j, j < n → g j = g' j) : mW D cl A L (mset M i (.inl (cA, n, .inr (.inr (.inr (.inr g')))))) H := by
  obtain ⟨ws, h1, h2, h3, h4⟩ := h
  obtain ⟨k, hk⟩ := h3 i _ hi
  refine mW.set hk hi h3 h4 (va_P.set h1 h2 hk ?_ (fun _ _ => rfl)) (va_D.set h2 hk)
  have e := h1 k _ hk
  have e : H[L i]? = some (arrV cA n (fun j => va_rf (g j))) := e
  show H[L i]? = some (arrV cA n (fun j => va_rf (g' j)))
  rw [e, arrV_ext (fun j hj => by rw [hg j hj])]
def cs0 : CS := (fun a b k => if k = 1 ∧ ((a = 0 ∧ (b = 5 ∨ b = 8)) ∨ a = 1) then -1 else if a = 0 ∧ b = 10 ∧ (k = 12 ∨ k = 13) then -99999999 else 0, fun _ _ _ => 0, fun _ _ _ => 0, 0, fun _ _ => false, fun _ => none)
theorem cs0I : CInv cs0 := by
  refine ⟨Nat.zero_le _, fun m hm => absurd hm (Nat.not_lt_zero _), fun a b h => ?_, ⟨0, by decide, by decide⟩, ⟨0, by decide, by decide⟩, fun i _ => (by show (0 : Int32).toInt ≤ 30; decide), fun i m h => by cases h⟩
  rcases h with ⟨rfl, rfl | rfl⟩ | ⟨rfl, -, -⟩ | h
  · exact Or.inl (by decide)
  · exact Or.inl (by decide)
  · exact Or.inl (by simp [cs0])
  · exfalso
    have := h.2.1
    simp [cs0, cN] at this
    omega
theorem cM_new {Γ : mG} {A : Nat → Prop} {LC : mI → Nat} {MC : mM} {H : Heap} (hw : mW Γ.1 vwCl A LC MC H) (hF : mget MC (nm 0 0) = some (.inr (7, [.ref (LC (nm 0 1)), .ref (LC (nm 0 3)), .ref (LC (nm 0 10))])) ∧ mget MC (nm 0 1) = some (.inr (5, [.ref (LC (nm 0 2)), .int 0])) ∧ mget MC (nm 0 2) = some (.inl (Γ.2.1 3, 8, .inr (.inr (.inr (.inr (fun _ => none)))))) ∧ mget MC (nm 0 3) = some (.inr (2, [.ref (LC (nm 0 4)), .ref (LC (nm 0 5)), .ref (LC (nm 0 7)), .int 0, .int 0, .int 0])) ∧ mget MC (nm 0 5) = some (.inr (4, [.ref (LC (nm 0 6)), .int (-1)])) ∧ mget MC (nm 0 6) = some (.inl (Γ.2.1 0, 16, .inl (fun _ => 0))) ∧ mget MC (nm 0 7) = some (.inr (6, [.ref (LC (nm 0 8)), .int 0, .int 0])) ∧ mget MC (nm 0 8) = some (.inr (4, [.ref (LC (nm 0 9)), .int (-1)])) ∧ mget MC (nm 0 9) = some (.inl (Γ.2.1 0, 16, .inl (fun _ => 0))) ∧ mget MC (nm 0 10) = some (.inr (3, [.ref (LC (nm 0 11)), .ref (LC (nm 0 16)), .ref (LC (nm 0 17)), .ref (LC (nm 0 18)), .ref (LC (nm 0 19)), .ref (LC (nm 0 20)), .int 0, .int 0, .int 0, .int 0, .int 0, .int 0, .int (-99999999), .int (-99999999)])) ∧ mget MC (nm 0 11) = some (.inr (1, [.ref (LC (nm 0 12)), .ref (LC (nm 0 13)), .ref (LC (nm 0 14)), .ref (LC (nm 0 15)), .int 0])) ∧ mget MC (nm 0 12) = some (.inl (Γ.2.1 0, 21, .inl (fun _ => 0))) ∧ mget MC (nm 0 13) = some (.inl (Γ.2.1 0, 21, .inl (fun _ => 0))) ∧ mget MC (nm 0 14) = some (.inl (Γ.2.1 0, 21, .inl (fun _ => 0))) ∧ mget MC (nm 0 15) = some (.inl (Γ.2.1 0, 630, .inl (fun _ => 0))) ∧ mget MC (nm 0 16) = some (.inl (Γ.2.1 3, 8, .inr (.inr (.inr (.inr (fun _ => none)))))) ∧ mget MC (nm 0 17) = some (.inl (Γ.2.1 0, 8, .inl (fun _ => 0))) ∧ mget MC (nm 0 18) = some (.inl (Γ.2.1 0, 8, .inl (fun _ => 0))) ∧ mget MC (nm 0 19) = some (.inl (Γ.2.1 1, 64, .inr (.inl (fun _ => 0)))) ∧ mget MC (nm 0 20) = some (.inl (Γ.2.1 1, 64, .inr (.inl (fun _ => 0)))) ∧ aOK Γ LC MC) : mW Γ.1 vwCl A LC (cM Γ LC cs0) H := by
  obtain ⟨k0, k1, k2, k3, k5, k6, k7, k8, k9, k10, k11, k12, k13, k14, k15, k16, k17, k18, k19, k20, g, hg4, hin⟩ := hF
  have hw2 := mW_ext (g' := fun i => if i < 40 then some (LC (nm 1 (2 * i))) else none) hw hg4 (fun j hj => by simp only [if_pos hj]; exact (hin j hj).1)
  refine mW.sub hw2 (cM_sub (fun a b e he => ?_))
  by_cases w : a = 0 ∧ b = 4
  · obtain ⟨rfl, rfl⟩ := w
    exact (mget_self hg4).trans he
  · rw [mget_ne (fun z => w (by cases z; exact ⟨rfl, rfl⟩))]
    match a, b, he with
    | 0, 0, he => exact k0.trans he
    | 0, 1, he => exact k1.trans he
    | 0, 2, he => exact k2.trans he
    | 0, 3, he => exact k3.trans he
    | 0, 5, he => exact k5.trans he
    | 0, 6, he => exact k6.trans he
    | 0, 7, he => exact k7.trans he
    | 0, 8, he => exact k8.trans he
    | 0, 9, he => exact k9.trans he
    | 0, 10, he => exact k10.trans he
    | 0, 11, he => exact k11.trans he
    | 0, 12, he => exact k12.trans he
    | 0, 13, he => exact k13.trans he
    | 0, 14, he => exact k14.trans he
    | 0, 15, he => exact k15.trans he
    | 0, 16, he => exact k16.trans he
    | 0, 17, he => exact k17.trans he
    | 0, 18, he => exact k18.trans he
    | 0, 19, he => exact k19.trans he
    | 0, 20, he => exact k20.trans he
    | 0, 4, he => exact absurd ⟨rfl, rfl⟩ w
    | 0, b + 21, he => cases he
    | 1, b, he =>
      by_cases c1 : b < 80
      · by_cases c2 : b % 2 = 0
        · obtain ⟨i, rfl⟩ : ∃ i, b = 2 * i := ⟨b / 2, by omega⟩
          rw [(hin i (by omega)).2.1]
          simpa [cA, cel, cs0, c1, c2] using he
        · obtain ⟨i, rfl⟩ : ∃ i, b = 2 * i + 1 := ⟨b / 2, by omega⟩
          rw [(hin i (by omega)).2.2]
          simpa [cA, cel, cs0, c1, c2] using he
      · simp [cA, cel, cs0, c1] at he
    | m + 2, b, he => simp [cA, cel, cs0, cN] at he
theorem Tie.new {f : Nat → Int32} : Tie cs0 (xz f) := by
  refine ⟨rfl, fun m hm => absurd hm (Nat.not_lt_zero _), fun m _ _ => ⟨by simp [xz], by simp [xz]⟩⟩
theorem Tie2.new {f : Nat → Int32} : Tie2 cs0 (xz f) := ⟨Tie.new, fun m hm => absurd hm (Nat.not_lt_zero _)⟩
theorem Tie3.new {f : Nat → Int32} : Tie3 cs0 (xz f) := ⟨Tie2.new, show cs0.1 0 3 5 = 0 by decide⟩
