/-! THE CLASS'S FIRST STATE -/
theorem arrV_ext {cA : ClassId} {n : Nat} {f g : Nat → Value} (h : ∀ j, j < n → f j = g j) : arrV cA n f = arrV cA n g := by
  unfold arrV
  congr 1
  first
  | (apply congrArg; apply Array.ext' <;> simp_all; done)
  | (simp only [Array.ofFn]; congr 1; funext j; exact h j.1 j.2)
  | (congr 1; funext j; exact h j.1 j.2)
  | (congr 1; apply List.map_congr_left; intro j hj; exact h j (List.mem_range.mp hj))
theorem mW_ext {D : va_G} {cl : List vw_C} {A : Nat → Prop} {L : mI → Nat} {M : mM} {H : Heap} {i : mI} {cA : ClassId} {n : Nat} {g g' : Nat → Option Nat} (h : mW D cl A L M H) (hi : mget M i = some (.inl (cA, n, .inr (.inr (.inr (.inr g)))))) (hg : ∀ j, j < n → g j = g' j) : mW D cl A L (mset M i (.inl (cA, n, .inr (.inr (.inr (.inr g')))))) H := by
  obtain ⟨ws, h1, h2, h3, h4⟩ := h
  obtain ⟨k, hk⟩ := h3 i _ hi
  refine mW.set hk hi h3 h4 (va_P.set h1 h2 hk ?_ (fun _ _ => rfl)) (va_D.set h2 hk)
  have e := h1 k _ hk
  have e : H[L i]? = some (arrV cA n (fun j => va_rf (g j))) := e
  show H[L i]? = some (arrV cA n (fun j => va_rf (g' j)))
  rw [e, arrV_ext (fun j hj => by rw [hg j hj])]
