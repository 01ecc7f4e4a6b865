/-! MEMORY BY NAMES: a world is a list of single cells and a list of families of cells; L says where each lies -/
abbrev mM : Type := List va_E × List (Nat → Nat → Option va_E)
abbrev mI : Type := Nat ⊕ (Nat × Nat × Nat)
def mget (M : mM) (i : mI) : Option va_E := match i with
  | .inl k => M.1[k]?
  | .inr (t, a, b) => match M.2[t]? with
    | some f => f a b
    | none => none
def up2 (f : Nat → Nat → Option va_E) (a b : Nat) (e : va_E) : Nat → Nat → Option va_E := fun x y => if x = a ∧ y = b then some e else f x y
def mset (M : mM) (i : mI) (e : va_E) : mM := match i with
  | .inl k => (M.1.set k e, M.2)
  | .inr (t, a, b) => (M.1, match M.2[t]? with
    | some f => M.2.set t (up2 f a b e)
    | none => M.2)
def mpush (M : mM) (e : va_E) : mM := (M.1 ++ [e], M.2)
def updI (L : mI → Nat) (i : mI) (q : Nat) : mI → Nat := fun j => if j = i then q else L j
theorem updI_self {L : mI → Nat} {i : mI} {q : Nat} : updI L i q i = q := by simp [updI]
theorem updI_ne {L : mI → Nat} {i j : mI} {q : Nat} (h : j ≠ i) : updI L i q j = L j := by simp [updI, h]
theorem mget_self {M : mM} {i : mI} {e0 e : va_E} (h : mget M i = some e0) : mget (mset M i e) i = some e := by
  rcases i with k | ⟨t, a, b⟩
  · have hk : k < M.1.length := (List.getElem?_eq_some_iff.mp h).1
    show (M.1.set k e)[k]? = some e
    rw [List.getElem?_set_self hk]
  · cases hf : M.2[t]? with
    | none => simp [mget, hf] at h
    | some f =>
      have ht : t < M.2.length := (List.getElem?_eq_some_iff.mp hf).1
      simp [mset, mget, hf, List.getElem?_set_self ht, up2]
theorem mget_selfF {M : mM} {t a b : Nat} {f : Nat → Nat → Option va_E} {e : va_E} (hf : M.2[t]? = some f) : mget (mset M (.inr (t, a, b)) e) (.inr (t, a, b)) = some e := by
  have ht : t < M.2.length := (List.getElem?_eq_some_iff.mp hf).1
  simp [mset, mget, hf, List.getElem?_set_self ht, up2]
theorem mget_ne {M : mM} {i j : mI} {e : va_E} (h : j ≠ i) : mget (mset M i e) j = mget M j := by
  rcases i with k | ⟨t, a, b⟩ <;> rcases j with k' | ⟨t', a', b'⟩
  · have hk : k ≠ k' := fun q => h (by rw [q])
    show (M.1.set k e)[k']? = M.1[k']?
    rw [List.getElem?_set_ne hk]
  · rfl
  · rfl
  · cases hf : M.2[t]? with
    | none => simp [mset, mget, hf]
    | some f =>
      have ht : t < M.2.length := (List.getElem?_eq_some_iff.mp hf).1
      by_cases q : t = t'
      · subst q
        have h2 : ¬ (a' = a ∧ b' = b) := fun z => h (by rw [z.1, z.2])
        simp [mset, mget, hf, List.getElem?_set_self ht, up2, h2]
      · simp [mset, mget, hf, List.getElem?_set_ne q]
/-- the heap holds the world, at addresses that are apart and lie in A -/
def mW (D : va_G) (cl : List vw_C) (A : Nat → Prop) (L : mI → Nat) (M : mM) (H : Heap) : Prop :=
  ∃ ws : va_W, va_P D cl ws H ∧ va_D A ws ∧ (∀ (i : mI) (e : va_E), mget M i = some e → ∃ k : Nat, ws[k]? = some (L i, e)) ∧
    ∀ (i j : mI) (x y : va_E), mget M i = some x → mget M j = some y → L i = L j → i = j
theorem mW.set {D : va_G} {cl : List vw_C} {A : Nat → Prop} {L : mI → Nat} {M : mM} {H1 : Heap} {ws : va_W} {i : mI} {k : Nat} {e0 e : va_E}
    (hk : ws[k]? = some (L i, e0)) (hi : mget M i = some e0) (h3 : ∀ (i : mI) (e : va_E), mget M i = some e → ∃ k : Nat, ws[k]? = some (L i, e)) (h4 : ∀ (i j : mI) (x y : va_E), mget M i = some x → mget M j = some y → L i = L j → i = j)
    (hP : va_P D cl (ws.set k (L i, e)) H1) (hD : va_D A (ws.set k (L i, e))) : mW D cl A L (mset M i e) H1 := by
  have hl : k < ws.length := (List.getElem?_eq_some_iff.mp hk).1
  have old : ∀ (j : mI) (x : va_E), mget (mset M i e) j = some x → ∃ y, mget M j = some y := by
    intro j x hx
    by_cases q : j = i
    · subst q; exact ⟨_, hi⟩
    · rw [mget_ne q] at hx; exact ⟨_, hx⟩
  refine ⟨_, hP, hD, fun j x hx => ?_, fun a b x y hx hy hab => ?_⟩
  · by_cases q : j = i
    · subst q
      rw [mget_self hi] at hx
      cases hx
      exact ⟨k, List.getElem?_set_self hl⟩
    · rw [mget_ne q] at hx
      obtain ⟨k', hk'⟩ := h3 j x hx
      refine ⟨k', ?_⟩
      have hne : k ≠ k' := by
        intro z
        subst z
        rw [hk] at hk'
        exact q (h4 j i x e0 hx hi (congrArg Prod.fst (Option.some.inj hk')).symm)
      rw [List.getElem?_set_ne hne]
      exact hk'
  · obtain ⟨x', hx'⟩ := old a x hx
    obtain ⟨y', hy'⟩ := old b y hy
    exact h4 a b _ _ hx' hy' hab
theorem mW.grow {D : va_G} {cl : List vw_C} {A : Nat → Prop} {L : mI → Nat} {M M' : mM} {H1 : Heap} {ws : va_W} {i : mI} {q : Nat} {e : va_E}
    (h3 : ∀ (i : mI) (e : va_E), mget M i = some e → ∃ k : Nat, ws[k]? = some (L i, e)) (h4 : ∀ (i j : mI) (x y : va_E), mget M i = some x → mget M j = some y → L i = L j → i = j)
    (hP : va_P D cl (ws ++ [(q, e)]) H1) (hD : va_D A (ws ++ [(q, e)])) (h1 : mget M' i = some e) (h2 : ∀ j, j ≠ i → mget M' j = mget M j) : mW D cl A (updI L i q) M' H1 := by
  have hlast : (ws ++ [(q, e)])[ws.length]? = some (q, e) := by simp
  have hold : ∀ (j : mI) (x : va_E), j ≠ i → mget M' j = some x → ∃ k : Nat, k < ws.length ∧ (ws ++ [(q, e)])[k]? = some (L j, x) := by
    intro j x hj hx
    rw [h2 j hj] at hx
    obtain ⟨k, hk⟩ := h3 j x hx
    have hl : k < ws.length := (List.getElem?_eq_some_iff.mp hk).1
    exact ⟨k, hl, by rw [List.getElem?_append_left hl]; exact hk⟩
  refine ⟨_, hP, hD, fun j x hx => ?_, fun a b x y hx hy hab => ?_⟩
  · by_cases z : j = i
    · subst z
      rw [h1] at hx
      cases hx
      exact ⟨ws.length, by rw [updI_self]; exact hlast⟩
    · obtain ⟨k, -, hk⟩ := hold j x z hx
      exact ⟨k, by rw [updI_ne z]; exact hk⟩
  · by_cases za : a = i <;> by_cases zb : b = i
    · rw [za, zb]
    · subst za
      obtain ⟨k, hl, hk⟩ := hold b y zb hy
      rw [updI_self, updI_ne zb] at hab
      have := hD.1 _ _ _ _ hlast hk hab
      omega
    · subst zb
      obtain ⟨k, hl, hk⟩ := hold a x za hx
      rw [updI_self, updI_ne za] at hab
      have := hD.1 _ _ _ _ hk hlast hab
      omega
    · rw [updI_ne za, updI_ne zb] at hab
      rw [h2 a za] at hx
      rw [h2 b zb] at hy
      exact h4 a b x y hx hy hab
theorem mW.weaken {D : va_G} {cl : List vw_C} {A B : Nat → Prop} {L : mI → Nat} {M : mM} {H : Heap} (h : mW D cl A L M H) (hAB : ∀ q, A q → B q) : mW D cl B L M H := by
  obtain ⟨ws, h1, h2, h3, h4⟩ := h
  exact ⟨ws, h1, h2.weaken (fun _ _ _ hq => hAB _ hq), h3, h4⟩
theorem mW.inA {D : va_G} {cl : List vw_C} {A : Nat → Prop} {L : mI → Nat} {M : mM} {H : Heap} (h : mW D cl A L M H) {i : mI} {e : va_E} (hi : mget M i = some e) : A (L i) := by
  obtain ⟨ws, h1, h2, h3, h4⟩ := h
  obtain ⟨k, hk⟩ := h3 i e hi
  exact h2.2 k _ hk
theorem mW.lt {D : va_G} {cl : List vw_C} {A : Nat → Prop} {L : mI → Nat} {M : mM} {H : Heap} (h : mW D cl A L M H) {i : mI} {e : va_E} (hi : mget M i = some e) : L i < H.size := by
  obtain ⟨ws, h1, h2, h3, h4⟩ := h
  obtain ⟨k, hk⟩ := h3 i e hi
  exact (h1 k _ hk).lt
/-- a world that nothing has touched -/
theorem mW.kept {D : va_G} {cl : List vw_C} {A : Nat → Prop} {L : mI → Nat} {M : mM} {H H1 : Heap} (h : mW D cl A L M H) (hq : ∀ q : Nat, q < H.size → A q → H1[q]? = H[q]?) : mW D cl A L M H1 := by
  obtain ⟨ws, h1, h2, h3, h4⟩ := h
  exact ⟨ws, h1.kept (fun k q hk => hq _ ((h1 k q hk).lt) (h2.2 k q hk)), h2, h3, h4⟩
