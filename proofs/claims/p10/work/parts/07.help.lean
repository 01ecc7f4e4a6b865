/-! HELPS: small numbers, compares of longs, arrays by Nat places -/
theorem nadd {x y : Int32} {a b : Nat} (h : x = nI a) (k : y = nI b) : x + y = nI (a + b) := by rw [h, k, nI_add]
theorem nmul {x y : Int32} {a b : Nat} (h : x = nI a) (k : y = nI b) : x * y = nI (a * b) := by rw [h, k, pk_mul]
theorem nsub {x y : Int32} {a b : Nat} (hb : b ≤ a) (h : x = nI a) (k : y = nI b) : x - y = nI (a - b) := by rw [h, k, pk_sub hb]
theorem nltT {x y : Int32} {a b : Nat} (h : x = nI a) (k : y = nI b) (ha : a < 2 ^ 31) (hb : b < 2 ^ 31) (c : x < y) : a < b := by rw [h, k] at c; exact (nI_ltI ha hb).mp c
theorem nltF {x y : Int32} {a b : Nat} (h : x = nI a) (k : y = nI b) (ha : a < 2 ^ 31) (hb : b < 2 ^ 31) (c : ¬ x < y) : ¬ a < b := by rw [h, k] at c; exact fun z => c ((nI_ltI ha hb).mpr z)
theorem ngeT {x y : Int32} {a b : Nat} (h : x = nI a) (k : y = nI b) (ha : a < 2 ^ 31) (hb : b < 2 ^ 31) (c : y ≤ x) : a ≥ b := by rw [h, k] at c; exact (nI_leI hb ha).mp c
theorem ngeF {x y : Int32} {a b : Nat} (h : x = nI a) (k : y = nI b) (ha : a < 2 ^ 31) (hb : b < 2 ^ 31) (c : ¬ y ≤ x) : ¬ a ≥ b := by rw [h, k] at c; exact fun z => c ((nI_leI hb ha).mpr z)
theorem ngtT {x y : Int32} {a b : Nat} (h : x = nI a) (k : y = nI b) (ha : a < 2 ^ 31) (hb : b < 2 ^ 31) (c : y < x) : a > b := by rw [h, k] at c; exact (nI_ltI hb ha).mp c
theorem ngtF {x y : Int32} {a b : Nat} (h : x = nI a) (k : y = nI b) (ha : a < 2 ^ 31) (hb : b < 2 ^ 31) (c : ¬ y < x) : ¬ a > b := by rw [h, k] at c; exact fun z => c ((nI_ltI hb ha).mpr z)
theorem nleT {x y : Int32} {a b : Nat} (h : x = nI a) (k : y = nI b) (ha : a < 2 ^ 31) (hb : b < 2 ^ 31) (c : x ≤ y) : a ≤ b := by rw [h, k] at c; exact (nI_leI ha hb).mp c
theorem nleF {x y : Int32} {a b : Nat} (h : x = nI a) (k : y = nI b) (ha : a < 2 ^ 31) (hb : b < 2 ^ 31) (c : ¬ x ≤ y) : ¬ a ≤ b := by rw [h, k] at c; exact fun z => c ((nI_leI ha hb).mpr z)
theorem neqT {x y : Int32} {a b : Nat} (h : x = nI a) (k : y = nI b) (ha : a < 2 ^ 31) (hb : b < 2 ^ 31) (c : x = y) : a = b := by rw [h, k] at c; exact (nI_eq ha hb).mp c
theorem neqF {x y : Int32} {a b : Nat} (h : x = nI a) (k : y = nI b) (ha : a < 2 ^ 31) (hb : b < 2 ^ 31) (c : ¬ x = y) : ¬ a = b := by rw [h, k] at c; exact fun z => c ((nI_eq ha hb).mpr z)
theorem nneT {x y : Int32} {a b : Nat} (h : x = nI a) (k : y = nI b) (ha : a < 2 ^ 31) (hb : b < 2 ^ 31) (c : ¬ x = y) : ¬ a = b := neqF h k ha hb c
theorem nneF {x y : Int32} {a b : Nat} (h : x = nI a) (k : y = nI b) (ha : a < 2 ^ 31) (hb : b < 2 ^ 31) (c : x = y) : a = b := neqT h k ha hb c
theorem bI_eq0 {b : Bool} : bI b = 0 ↔ b = false := by cases b <;> decide
theorem bI_t {b : Bool} (h : ¬ bI b = 0) : b = true := by cases b <;> simp_all [bI]
theorem bI_f {b : Bool} (h : bI b = 0) : b = false := by cases b <;> simp_all [bI]
theorem bI_inj {a b : Bool} : bI a = bI b ↔ a = b := by cases a <;> cases b <;> decide
theorem cmp_lt (x y : Int64) : lg_cmp x y < 0 ↔ x < y := by
  unfold lg_cmp
  by_cases h1 : x > y
  · rw [if_pos h1]
    exact ⟨fun h => absurd h (by decide), fun h => absurd (Int64.lt_iff_toInt_lt.mp h) (by have := Int64.lt_iff_toInt_lt.mp h1; omega)⟩
  · rw [if_neg h1]
    by_cases h2 : x = y
    · rw [if_pos h2]
      exact ⟨fun h => absurd h (by decide), fun h => absurd (Int64.lt_iff_toInt_lt.mp h) (by rw [h2]; omega)⟩
    · rw [if_neg h2]
      refine ⟨fun _ => Int64.lt_iff_toInt_lt.mpr ?_, fun _ => by decide⟩
      have e1 : ¬ y.toInt < x.toInt := fun z => h1 (Int64.lt_iff_toInt_lt.mpr z)
      have e2 : ¬ x.toInt = y.toInt := fun z => h2 (Int64.toInt_inj.mp z)
      omega
theorem cmp_gt (x y : Int64) : 0 < lg_cmp x y ↔ y < x := by
  unfold lg_cmp
  by_cases h1 : x > y
  · rw [if_pos h1]
    exact ⟨fun _ => h1, fun _ => by decide⟩
  · rw [if_neg h1]
    refine ⟨fun h => ?_, fun h => absurd h h1⟩
    by_cases h2 : x = y
    · rw [if_pos h2] at h; exact absurd h (by decide)
    · rw [if_neg h2] at h; exact absurd h (by decide)
theorem cmp_eq (x y : Int64) : lg_cmp x y = 0 ↔ x = y := by
  unfold lg_cmp
  by_cases h1 : x > y
  · rw [if_pos h1]
    refine ⟨fun h => absurd h (by decide), fun h => ?_⟩
    subst h
    exact absurd (Int64.lt_iff_toInt_lt.mp h1) (by omega)
  · rw [if_neg h1]
    by_cases h2 : x = y
    · rw [if_pos h2]; exact ⟨fun _ => h2, fun _ => rfl⟩
    · rw [if_neg h2]; exact ⟨fun h => absurd h (by decide), fun h => absurd h h2⟩
section ML
variable {p : Program} {l : Launch} {e : Env} {R : Room} {s : State} {m : MethodId} {args : Array Value} {below : List Frame} {meth : Method} {c : Code} {H : Heap} {locs : List Loc} {cells slots : Nat} {Q : State → Prop}
variable {cc : ByteArray} {pc nL : Nat} {ls : Array Slot} {rest : List Value}
theorem m_lcmp_lt {x y : Int64} {off : Int} {tgt : Nat} (hx : p.tables.exec = Jvm.exec) (hb : c.code = cc) (d1 : decode cc pc = .ok (.lcmp, 1)) (d2 : decode cc (pc + 1) = .ok (.ifCond .lt off, 3)) (ht : ((pc + 1 : Nat) : Int) + off = (tgt : Int)) (kt : x < y → W p l e R s m args below meth c H locs cells slots Q (F0 m tgt ls rest)) (kf : ¬ x < y → W p l e R s m args below meth c H locs cells slots Q (F0 m (pc + 1 + 3) ls rest)) : W p l e R s m args below meth c H locs cells slots Q (F0 m pc ls (.long y :: .long x :: rest)) :=
  W.lcmp hx hb d1 (lv_if_lt hx hb d2 ht (fun h => kt ((cmp_lt x y).mp h)) (fun h => kf (fun z => h ((cmp_lt x y).mpr z))))
theorem m_lcmp_ge {x y : Int64} {off : Int} {tgt : Nat} (hx : p.tables.exec = Jvm.exec) (hb : c.code = cc) (d1 : decode cc pc = .ok (.lcmp, 1)) (d2 : decode cc (pc + 1) = .ok (.ifCond .ge off, 3)) (ht : ((pc + 1 : Nat) : Int) + off = (tgt : Int)) (kt : ¬ x < y → W p l e R s m args below meth c H locs cells slots Q (F0 m tgt ls rest)) (kf : ¬ ¬ x < y → W p l e R s m args below meth c H locs cells slots Q (F0 m (pc + 1 + 3) ls rest)) : W p l e R s m args below meth c H locs cells slots Q (F0 m pc ls (.long y :: .long x :: rest)) :=
  W.lcmp hx hb d1 (lv_if_ge hx hb d2 ht (fun h => kt (fun z => absurd (Int32.lt_iff_toInt_lt.mp ((cmp_lt x y).mpr z)) (by have := Int32.le_iff_toInt_le.mp h; omega))) (fun h => kf (fun z => h (Int32.not_lt.mp (fun q => z ((cmp_lt x y).mp q))))))
theorem m_lcmp_gt {x y : Int64} {off : Int} {tgt : Nat} (hx : p.tables.exec = Jvm.exec) (hb : c.code = cc) (d1 : decode cc pc = .ok (.lcmp, 1)) (d2 : decode cc (pc + 1) = .ok (.ifCond .gt off, 3)) (ht : ((pc + 1 : Nat) : Int) + off = (tgt : Int)) (kt : y < x → W p l e R s m args below meth c H locs cells slots Q (F0 m tgt ls rest)) (kf : ¬ y < x → W p l e R s m args below meth c H locs cells slots Q (F0 m (pc + 1 + 3) ls rest)) : W p l e R s m args below meth c H locs cells slots Q (F0 m pc ls (.long y :: .long x :: rest)) :=
  W.lcmp hx hb d1 (lv_if_gt hx hb d2 ht (fun h => kt ((cmp_gt x y).mp h)) (fun h => kf (fun z => h ((cmp_gt x y).mpr z))))
theorem m_lcmp_le {x y : Int64} {off : Int} {tgt : Nat} (hx : p.tables.exec = Jvm.exec) (hb : c.code = cc) (d1 : decode cc pc = .ok (.lcmp, 1)) (d2 : decode cc (pc + 1) = .ok (.ifCond .le off, 3)) (ht : ((pc + 1 : Nat) : Int) + off = (tgt : Int)) (kt : ¬ y < x → W p l e R s m args below meth c H locs cells slots Q (F0 m tgt ls rest)) (kf : ¬ ¬ y < x → W p l e R s m args below meth c H locs cells slots Q (F0 m (pc + 1 + 3) ls rest)) : W p l e R s m args below meth c H locs cells slots Q (F0 m pc ls (.long y :: .long x :: rest)) :=
  W.lcmp hx hb d1 (lv_if_le hx hb d2 ht (fun h => kt (fun z => absurd (Int32.lt_iff_toInt_lt.mp ((cmp_gt x y).mpr z)) (by have := Int32.le_iff_toInt_le.mp h; omega))) (fun h => kf (fun z => h (Int32.not_lt.mp (fun q => z ((cmp_gt x y).mp q))))))
theorem m_lcmp_eq {x y : Int64} {off : Int} {tgt : Nat} (hx : p.tables.exec = Jvm.exec) (hb : c.code = cc) (d1 : decode cc pc = .ok (.lcmp, 1)) (d2 : decode cc (pc + 1) = .ok (.ifCond .eq off, 3)) (ht : ((pc + 1 : Nat) : Int) + off = (tgt : Int)) (kt : x = y → W p l e R s m args below meth c H locs cells slots Q (F0 m tgt ls rest)) (kf : ¬ x = y → W p l e R s m args below meth c H locs cells slots Q (F0 m (pc + 1 + 3) ls rest)) : W p l e R s m args below meth c H locs cells slots Q (F0 m pc ls (.long y :: .long x :: rest)) :=
  W.lcmp hx hb d1 (lv_if_eq hx hb d2 ht (fun h => kt ((cmp_eq x y).mp h)) (fun h => kf (fun z => h ((cmp_eq x y).mpr z))))
theorem m_lcmp_ne {x y : Int64} {off : Int} {tgt : Nat} (hx : p.tables.exec = Jvm.exec) (hb : c.code = cc) (d1 : decode cc pc = .ok (.lcmp, 1)) (d2 : decode cc (pc + 1) = .ok (.ifCond .ne off, 3)) (ht : ((pc + 1 : Nat) : Int) + off = (tgt : Int)) (kt : ¬ x = y → W p l e R s m args below meth c H locs cells slots Q (F0 m tgt ls rest)) (kf : x = y → W p l e R s m args below meth c H locs cells slots Q (F0 m (pc + 1 + 3) ls rest)) : W p l e R s m args below meth c H locs cells slots Q (F0 m pc ls (.long y :: .long x :: rest)) :=
  W.lcmp hx hb d1 (lv_if_ne hx hb d2 ht (fun h => kt (fun z => h ((cmp_eq x y).mpr z))) (fun h => kf ((cmp_eq x y).mp h)))
end ML
section RN
variable {p : Program} {l : Launch} {e : Env} {R : Room} {s : State} {m : MethodId} {args : Array Value} {below : List Frame} {meth : Method} {c : Code} {H : Heap} {locs : List Loc} {cells slots : Nat} {Q : State → Prop}
variable {cc : ByteArray} {pc nL : Nat} {ls : Array Slot} {rest : List Value} {Γ : mG} {A : Nat → Prop} {L : mI → Nat} {x : RS}
theorem r_ald1N {i : Int32} {n : Nat} (X : mX Γ p m c cc nL s args RX10 A) (hw : mW Γ.1 vwCl A L (rM Γ L x) H) (hi : i = nI n) (hn : n < 8) (hdg : decode cc pc = .ok (.iaload, 1)) (kk : W p l e R s m args below meth c H locs cells slots Q (F0 m (pc + 1) ls (.int (x.2.1 1 n) :: rest))) : W p l e R s m args below meth c H locs cells slots Q (F0 m pc ls (.int i :: .ref (L (.inr (0, 1, 0))) :: rest)) := by
  subst hi
  refine r_ald1 X hw (vp_in_nI hn (by decide)) hdg ?_
  rw [nI_clamp (by omega)]
  exact kk
theorem r_ast1N {i : Int32} {v : Int32} {n : Nat} (X : mX Γ p m c cc nL s args RX10 A) (hw : mW Γ.1 vwCl A L (rM Γ L x) H) (hS : va_S A s.heap H locs) (hi : i = nI n) (hn : n < 8) (hdg : decode cc pc = .ok (.iastore, 1)) (kk : ∀ (H1 : Heap) (locs1 : List Loc), mW Γ.1 vwCl A L (rM Γ L (sA x 1 n v)) H1 → va_S A s.heap H1 locs1 → W p l e R s m args below meth c H1 locs1 cells slots Q (F0 m (pc + 1) ls rest)) : W p l e R s m args below meth c H locs cells slots Q (F0 m pc ls (.int v :: .int i :: .ref (L (.inr (0, 1, 0))) :: rest)) := by
  subst hi
  refine r_ast1 X hw hS (vp_in_nI hn (by decide)) hdg ?_
  rw [nI_clamp (by omega)]
  exact kk
theorem r_ald2N {i : Int32} {n : Nat} (X : mX Γ p m c cc nL s args RX10 A) (hw : mW Γ.1 vwCl A L (rM Γ L x) H) (hi : i = nI n) (hn : n < 8) (hdg : decode cc pc = .ok (.iaload, 1)) (kk : W p l e R s m args below meth c H locs cells slots Q (F0 m (pc + 1) ls (.int (x.2.1 2 n) :: rest))) : W p l e R s m args below meth c H locs cells slots Q (F0 m pc ls (.int i :: .ref (L (.inr (0, 2, 0))) :: rest)) := by
  subst hi
  refine r_ald2 X hw (vp_in_nI hn (by decide)) hdg ?_
  rw [nI_clamp (by omega)]
  exact kk
theorem r_ast2N {i : Int32} {v : Int32} {n : Nat} (X : mX Γ p m c cc nL s args RX10 A) (hw : mW Γ.1 vwCl A L (rM Γ L x) H) (hS : va_S A s.heap H locs) (hi : i = nI n) (hn : n < 8) (hdg : decode cc pc = .ok (.iastore, 1)) (kk : ∀ (H1 : Heap) (locs1 : List Loc), mW Γ.1 vwCl A L (rM Γ L (sA x 2 n v)) H1 → va_S A s.heap H1 locs1 → W p l e R s m args below meth c H1 locs1 cells slots Q (F0 m (pc + 1) ls rest)) : W p l e R s m args below meth c H locs cells slots Q (F0 m pc ls (.int v :: .int i :: .ref (L (.inr (0, 2, 0))) :: rest)) := by
  subst hi
  refine r_ast2 X hw hS (vp_in_nI hn (by decide)) hdg ?_
  rw [nI_clamp (by omega)]
  exact kk
theorem r_ald3N {i : Int32} {n : Nat} (X : mX Γ p m c cc nL s args RX10 A) (hw : mW Γ.1 vwCl A L (rM Γ L x) H) (hi : i = nI n) (hn : n < 320) (hdg : decode cc pc = .ok (.iaload, 1)) (kk : W p l e R s m args below meth c H locs cells slots Q (F0 m (pc + 1) ls (.int (x.2.1 3 n) :: rest))) : W p l e R s m args below meth c H locs cells slots Q (F0 m pc ls (.int i :: .ref (L (.inr (0, 3, 0))) :: rest)) := by
  subst hi
  refine r_ald3 X hw (vp_in_nI hn (by decide)) hdg ?_
  rw [nI_clamp (by omega)]
  exact kk
theorem r_ast3N {i : Int32} {v : Int32} {n : Nat} (X : mX Γ p m c cc nL s args RX10 A) (hw : mW Γ.1 vwCl A L (rM Γ L x) H) (hS : va_S A s.heap H locs) (hi : i = nI n) (hn : n < 320) (hdg : decode cc pc = .ok (.iastore, 1)) (kk : ∀ (H1 : Heap) (locs1 : List Loc), mW Γ.1 vwCl A L (rM Γ L (sA x 3 n v)) H1 → va_S A s.heap H1 locs1 → W p l e R s m args below meth c H1 locs1 cells slots Q (F0 m (pc + 1) ls rest)) : W p l e R s m args below meth c H locs cells slots Q (F0 m pc ls (.int v :: .int i :: .ref (L (.inr (0, 3, 0))) :: rest)) := by
  subst hi
  refine r_ast3 X hw hS (vp_in_nI hn (by decide)) hdg ?_
  rw [nI_clamp (by omega)]
  exact kk
theorem r_ald4N {i : Int32} {n : Nat} (X : mX Γ p m c cc nL s args RX10 A) (hw : mW Γ.1 vwCl A L (rM Γ L x) H) (hi : i = nI n) (hn : n < 320) (hdg : decode cc pc = .ok (.laload, 1)) (kk : W p l e R s m args below meth c H locs cells slots Q (F0 m (pc + 1) ls (.long (x.2.2 4 n) :: rest))) : W p l e R s m args below meth c H locs cells slots Q (F0 m pc ls (.int i :: .ref (L (.inr (0, 4, 0))) :: rest)) := by
  subst hi
  refine r_ald4 X hw (vp_in_nI hn (by decide)) hdg ?_
  rw [nI_clamp (by omega)]
  exact kk
theorem r_ast4N {i : Int32} {v : Int64} {n : Nat} (X : mX Γ p m c cc nL s args RX10 A) (hw : mW Γ.1 vwCl A L (rM Γ L x) H) (hS : va_S A s.heap H locs) (hi : i = nI n) (hn : n < 320) (hdg : decode cc pc = .ok (.lastore, 1)) (kk : ∀ (H1 : Heap) (locs1 : List Loc), mW Γ.1 vwCl A L (rM Γ L (sJ x 4 n v)) H1 → va_S A s.heap H1 locs1 → W p l e R s m args below meth c H1 locs1 cells slots Q (F0 m (pc + 1) ls rest)) : W p l e R s m args below meth c H locs cells slots Q (F0 m pc ls (.long v :: .int i :: .ref (L (.inr (0, 4, 0))) :: rest)) := by
  subst hi
  refine r_ast4 X hw hS (vp_in_nI hn (by decide)) hdg ?_
  rw [nI_clamp (by omega)]
  exact kk
theorem r_ald5N {i : Int32} {n : Nat} (X : mX Γ p m c cc nL s args RX10 A) (hw : mW Γ.1 vwCl A L (rM Γ L x) H) (hi : i = nI n) (hn : n < 8) (hdg : decode cc pc = .ok (.iaload, 1)) (kk : W p l e R s m args below meth c H locs cells slots Q (F0 m (pc + 1) ls (.int (x.2.1 5 n) :: rest))) : W p l e R s m args below meth c H locs cells slots Q (F0 m pc ls (.int i :: .ref (L (.inr (0, 5, 0))) :: rest)) := by
  subst hi
  refine r_ald5 X hw (vp_in_nI hn (by decide)) hdg ?_
  rw [nI_clamp (by omega)]
  exact kk
theorem r_ast5N {i : Int32} {v : Int32} {n : Nat} (X : mX Γ p m c cc nL s args RX10 A) (hw : mW Γ.1 vwCl A L (rM Γ L x) H) (hS : va_S A s.heap H locs) (hi : i = nI n) (hn : n < 8) (hdg : decode cc pc = .ok (.iastore, 1)) (kk : ∀ (H1 : Heap) (locs1 : List Loc), mW Γ.1 vwCl A L (rM Γ L (sA x 5 n v)) H1 → va_S A s.heap H1 locs1 → W p l e R s m args below meth c H1 locs1 cells slots Q (F0 m (pc + 1) ls rest)) : W p l e R s m args below meth c H locs cells slots Q (F0 m pc ls (.int v :: .int i :: .ref (L (.inr (0, 5, 0))) :: rest)) := by
  subst hi
  refine r_ast5 X hw hS (vp_in_nI hn (by decide)) hdg ?_
  rw [nI_clamp (by omega)]
  exact kk
theorem r_ald6N {i : Int32} {n : Nat} (X : mX Γ p m c cc nL s args RX10 A) (hw : mW Γ.1 vwCl A L (rM Γ L x) H) (hi : i = nI n) (hn : n < 192) (hdg : decode cc pc = .ok (.iaload, 1)) (kk : W p l e R s m args below meth c H locs cells slots Q (F0 m (pc + 1) ls (.int (x.2.1 6 n) :: rest))) : W p l e R s m args below meth c H locs cells slots Q (F0 m pc ls (.int i :: .ref (L (.inr (0, 6, 0))) :: rest)) := by
  subst hi
  refine r_ald6 X hw (vp_in_nI hn (by decide)) hdg ?_
  rw [nI_clamp (by omega)]
  exact kk
theorem r_ast6N {i : Int32} {v : Int32} {n : Nat} (X : mX Γ p m c cc nL s args RX10 A) (hw : mW Γ.1 vwCl A L (rM Γ L x) H) (hS : va_S A s.heap H locs) (hi : i = nI n) (hn : n < 192) (hdg : decode cc pc = .ok (.iastore, 1)) (kk : ∀ (H1 : Heap) (locs1 : List Loc), mW Γ.1 vwCl A L (rM Γ L (sA x 6 n v)) H1 → va_S A s.heap H1 locs1 → W p l e R s m args below meth c H1 locs1 cells slots Q (F0 m (pc + 1) ls rest)) : W p l e R s m args below meth c H locs cells slots Q (F0 m pc ls (.int v :: .int i :: .ref (L (.inr (0, 6, 0))) :: rest)) := by
  subst hi
  refine r_ast6 X hw hS (vp_in_nI hn (by decide)) hdg ?_
  rw [nI_clamp (by omega)]
  exact kk
theorem r_ald7N {i : Int32} {n : Nat} (X : mX Γ p m c cc nL s args RX10 A) (hw : mW Γ.1 vwCl A L (rM Γ L x) H) (hi : i = nI n) (hn : n < 320) (hdg : decode cc pc = .ok (.iaload, 1)) (kk : W p l e R s m args below meth c H locs cells slots Q (F0 m (pc + 1) ls (.int (x.2.1 7 n) :: rest))) : W p l e R s m args below meth c H locs cells slots Q (F0 m pc ls (.int i :: .ref (L (.inr (0, 7, 0))) :: rest)) := by
  subst hi
  refine r_ald7 X hw (vp_in_nI hn (by decide)) hdg ?_
  rw [nI_clamp (by omega)]
  exact kk
theorem r_ast7N {i : Int32} {v : Int32} {n : Nat} (X : mX Γ p m c cc nL s args RX10 A) (hw : mW Γ.1 vwCl A L (rM Γ L x) H) (hS : va_S A s.heap H locs) (hi : i = nI n) (hn : n < 320) (hdg : decode cc pc = .ok (.iastore, 1)) (kk : ∀ (H1 : Heap) (locs1 : List Loc), mW Γ.1 vwCl A L (rM Γ L (sA x 7 n v)) H1 → va_S A s.heap H1 locs1 → W p l e R s m args below meth c H1 locs1 cells slots Q (F0 m (pc + 1) ls rest)) : W p l e R s m args below meth c H locs cells slots Q (F0 m pc ls (.int v :: .int i :: .ref (L (.inr (0, 7, 0))) :: rest)) := by
  subst hi
  refine r_ast7 X hw hS (vp_in_nI hn (by decide)) hdg ?_
  rw [nI_clamp (by omega)]
  exact kk
theorem r_ald8N {i : Int32} {n : Nat} (X : mX Γ p m c cc nL s args RX10 A) (hw : mW Γ.1 vwCl A L (rM Γ L x) H) (hi : i = nI n) (hn : n < 5120) (hdg : decode cc pc = .ok (.iaload, 1)) (kk : W p l e R s m args below meth c H locs cells slots Q (F0 m (pc + 1) ls (.int (x.2.1 8 n) :: rest))) : W p l e R s m args below meth c H locs cells slots Q (F0 m pc ls (.int i :: .ref (L (.inr (0, 8, 0))) :: rest)) := by
  subst hi
  refine r_ald8 X hw (vp_in_nI hn (by decide)) hdg ?_
  rw [nI_clamp (by omega)]
  exact kk
theorem r_ast8N {i : Int32} {v : Int32} {n : Nat} (X : mX Γ p m c cc nL s args RX10 A) (hw : mW Γ.1 vwCl A L (rM Γ L x) H) (hS : va_S A s.heap H locs) (hi : i = nI n) (hn : n < 5120) (hdg : decode cc pc = .ok (.iastore, 1)) (kk : ∀ (H1 : Heap) (locs1 : List Loc), mW Γ.1 vwCl A L (rM Γ L (sA x 8 n v)) H1 → va_S A s.heap H1 locs1 → W p l e R s m args below meth c H1 locs1 cells slots Q (F0 m (pc + 1) ls rest)) : W p l e R s m args below meth c H locs cells slots Q (F0 m pc ls (.int v :: .int i :: .ref (L (.inr (0, 8, 0))) :: rest)) := by
  subst hi
  refine r_ast8 X hw hS (vp_in_nI hn (by decide)) hdg ?_
  rw [nI_clamp (by omega)]
  exact kk
theorem r_ald9N {i : Int32} {n : Nat} (X : mX Γ p m c cc nL s args RX10 A) (hw : mW Γ.1 vwCl A L (rM Γ L x) H) (hi : i = nI n) (hn : n < 8) (hdg : decode cc pc = .ok (.baload, 1)) (kk : W p l e R s m args below meth c H locs cells slots Q (F0 m (pc + 1) ls (.int (x.2.1 9 n) :: rest))) : W p l e R s m args below meth c H locs cells slots Q (F0 m pc ls (.int i :: .ref (L (.inr (0, 9, 0))) :: rest)) := by
  subst hi
  refine r_ald9 X hw (vp_in_nI hn (by decide)) hdg ?_
  rw [nI_clamp (by omega)]
  exact kk
theorem r_ast9N {i : Int32} {v : Int32} {n : Nat} (X : mX Γ p m c cc nL s args RX10 A) (hw : mW Γ.1 vwCl A L (rM Γ L x) H) (hS : va_S A s.heap H locs) (hi : i = nI n) (hn : n < 8) (hdg : decode cc pc = .ok (.bastore, 1)) (kk : ∀ (H1 : Heap) (locs1 : List Loc), mW Γ.1 vwCl A L (rM Γ L (sA x 9 n (vp_nar .boolean v))) H1 → va_S A s.heap H1 locs1 → W p l e R s m args below meth c H1 locs1 cells slots Q (F0 m (pc + 1) ls rest)) : W p l e R s m args below meth c H locs cells slots Q (F0 m pc ls (.int v :: .int i :: .ref (L (.inr (0, 9, 0))) :: rest)) := by
  subst hi
  refine r_ast9 X hw hS (vp_in_nI hn (by decide)) hdg ?_
  rw [nI_clamp (by omega)]
  exact kk
theorem r_ald11N {i : Int32} {n : Nat} (X : mX Γ p m c cc nL s args RX10 A) (hw : mW Γ.1 vwCl A L (rM Γ L x) H) (hi : i = nI n) (hn : n < 40) (hdg : decode cc pc = .ok (.iaload, 1)) (kk : W p l e R s m args below meth c H locs cells slots Q (F0 m (pc + 1) ls (.int (x.2.1 11 n) :: rest))) : W p l e R s m args below meth c H locs cells slots Q (F0 m pc ls (.int i :: .ref (L (.inr (0, 11, 0))) :: rest)) := by
  subst hi
  refine r_ald11 X hw (vp_in_nI hn (by decide)) hdg ?_
  rw [nI_clamp (by omega)]
  exact kk
theorem r_ast11N {i : Int32} {v : Int32} {n : Nat} (X : mX Γ p m c cc nL s args RX10 A) (hw : mW Γ.1 vwCl A L (rM Γ L x) H) (hS : va_S A s.heap H locs) (hi : i = nI n) (hn : n < 40) (hdg : decode cc pc = .ok (.iastore, 1)) (kk : ∀ (H1 : Heap) (locs1 : List Loc), mW Γ.1 vwCl A L (rM Γ L (sA x 11 n v)) H1 → va_S A s.heap H1 locs1 → W p l e R s m args below meth c H1 locs1 cells slots Q (F0 m (pc + 1) ls rest)) : W p l e R s m args below meth c H locs cells slots Q (F0 m pc ls (.int v :: .int i :: .ref (L (.inr (0, 11, 0))) :: rest)) := by
  subst hi
  refine r_ast11 X hw hS (vp_in_nI hn (by decide)) hdg ?_
  rw [nI_clamp (by omega)]
  exact kk
theorem r_ald12N {i : Int32} {n : Nat} (X : mX Γ p m c cc nL s args RX10 A) (hw : mW Γ.1 vwCl A L (rM Γ L x) H) (hi : i = nI n) (hn : n < 640) (hdg : decode cc pc = .ok (.iaload, 1)) (kk : W p l e R s m args below meth c H locs cells slots Q (F0 m (pc + 1) ls (.int (x.2.1 12 n) :: rest))) : W p l e R s m args below meth c H locs cells slots Q (F0 m pc ls (.int i :: .ref (L (.inr (0, 12, 0))) :: rest)) := by
  subst hi
  refine r_ald12 X hw (vp_in_nI hn (by decide)) hdg ?_
  rw [nI_clamp (by omega)]
  exact kk
theorem r_ast12N {i : Int32} {v : Int32} {n : Nat} (X : mX Γ p m c cc nL s args RX10 A) (hw : mW Γ.1 vwCl A L (rM Γ L x) H) (hS : va_S A s.heap H locs) (hi : i = nI n) (hn : n < 640) (hdg : decode cc pc = .ok (.iastore, 1)) (kk : ∀ (H1 : Heap) (locs1 : List Loc), mW Γ.1 vwCl A L (rM Γ L (sA x 12 n v)) H1 → va_S A s.heap H1 locs1 → W p l e R s m args below meth c H1 locs1 cells slots Q (F0 m (pc + 1) ls rest)) : W p l e R s m args below meth c H locs cells slots Q (F0 m pc ls (.int v :: .int i :: .ref (L (.inr (0, 12, 0))) :: rest)) := by
  subst hi
  refine r_ast12 X hw hS (vp_in_nI hn (by decide)) hdg ?_
  rw [nI_clamp (by omega)]
  exact kk
theorem r_ald14N {i : Int32} {n : Nat} (X : mX Γ p m c cc nL s args RX10 A) (hw : mW Γ.1 vwCl A L (rM Γ L x) H) (hi : i = nI n) (hn : n < 16) (hdg : decode cc pc = .ok (.iaload, 1)) (kk : W p l e R s m args below meth c H locs cells slots Q (F0 m (pc + 1) ls (.int (x.2.1 14 n) :: rest))) : W p l e R s m args below meth c H locs cells slots Q (F0 m pc ls (.int i :: .ref (L (.inr (0, 14, 0))) :: rest)) := by
  subst hi
  refine r_ald14 X hw (vp_in_nI hn (by decide)) hdg ?_
  rw [nI_clamp (by omega)]
  exact kk
theorem r_ast14N {i : Int32} {v : Int32} {n : Nat} (X : mX Γ p m c cc nL s args RX10 A) (hw : mW Γ.1 vwCl A L (rM Γ L x) H) (hS : va_S A s.heap H locs) (hi : i = nI n) (hn : n < 16) (hdg : decode cc pc = .ok (.iastore, 1)) (kk : ∀ (H1 : Heap) (locs1 : List Loc), mW Γ.1 vwCl A L (rM Γ L (sA x 14 n v)) H1 → va_S A s.heap H1 locs1 → W p l e R s m args below meth c H1 locs1 cells slots Q (F0 m (pc + 1) ls rest)) : W p l e R s m args below meth c H locs cells slots Q (F0 m pc ls (.int v :: .int i :: .ref (L (.inr (0, 14, 0))) :: rest)) := by
  subst hi
  refine r_ast14 X hw hS (vp_in_nI hn (by decide)) hdg ?_
  rw [nI_clamp (by omega)]
  exact kk
theorem r_ald17N {i : Int32} {n : Nat} (X : mX Γ p m c cc nL s args RX10 A) (hw : mW Γ.1 vwCl A L (rM Γ L x) H) (hi : i = nI n) (hn : n < 8) (hdg : decode cc pc = .ok (.iaload, 1)) (kk : W p l e R s m args below meth c H locs cells slots Q (F0 m (pc + 1) ls (.int (x.2.1 17 n) :: rest))) : W p l e R s m args below meth c H locs cells slots Q (F0 m pc ls (.int i :: .ref (L (.inr (0, 17, 0))) :: rest)) := by
  subst hi
  refine r_ald17 X hw (vp_in_nI hn (by decide)) hdg ?_
  rw [nI_clamp (by omega)]
  exact kk
theorem r_ast17N {i : Int32} {v : Int32} {n : Nat} (X : mX Γ p m c cc nL s args RX10 A) (hw : mW Γ.1 vwCl A L (rM Γ L x) H) (hS : va_S A s.heap H locs) (hi : i = nI n) (hn : n < 8) (hdg : decode cc pc = .ok (.iastore, 1)) (kk : ∀ (H1 : Heap) (locs1 : List Loc), mW Γ.1 vwCl A L (rM Γ L (sA x 17 n v)) H1 → va_S A s.heap H1 locs1 → W p l e R s m args below meth c H1 locs1 cells slots Q (F0 m (pc + 1) ls rest)) : W p l e R s m args below meth c H locs cells slots Q (F0 m pc ls (.int v :: .int i :: .ref (L (.inr (0, 17, 0))) :: rest)) := by
  subst hi
  refine r_ast17 X hw hS (vp_in_nI hn (by decide)) hdg ?_
  rw [nI_clamp (by omega)]
  exact kk
theorem r_ald18N {i : Int32} {n : Nat} (X : mX Γ p m c cc nL s args RX10 A) (hw : mW Γ.1 vwCl A L (rM Γ L x) H) (hi : i = nI n) (hn : n < 128) (hdg : decode cc pc = .ok (.laload, 1)) (kk : W p l e R s m args below meth c H locs cells slots Q (F0 m (pc + 1) ls (.long (x.2.2 18 n) :: rest))) : W p l e R s m args below meth c H locs cells slots Q (F0 m pc ls (.int i :: .ref (L (.inr (0, 18, 0))) :: rest)) := by
  subst hi
  refine r_ald18 X hw (vp_in_nI hn (by decide)) hdg ?_
  rw [nI_clamp (by omega)]
  exact kk
theorem r_ast18N {i : Int32} {v : Int64} {n : Nat} (X : mX Γ p m c cc nL s args RX10 A) (hw : mW Γ.1 vwCl A L (rM Γ L x) H) (hS : va_S A s.heap H locs) (hi : i = nI n) (hn : n < 128) (hdg : decode cc pc = .ok (.lastore, 1)) (kk : ∀ (H1 : Heap) (locs1 : List Loc), mW Γ.1 vwCl A L (rM Γ L (sJ x 18 n v)) H1 → va_S A s.heap H1 locs1 → W p l e R s m args below meth c H1 locs1 cells slots Q (F0 m (pc + 1) ls rest)) : W p l e R s m args below meth c H locs cells slots Q (F0 m pc ls (.long v :: .int i :: .ref (L (.inr (0, 18, 0))) :: rest)) := by
  subst hi
  refine r_ast18 X hw hS (vp_in_nI hn (by decide)) hdg ?_
  rw [nI_clamp (by omega)]
  exact kk
theorem r_ald19N {i : Int32} {n : Nat} (X : mX Γ p m c cc nL s args RX10 A) (hw : mW Γ.1 vwCl A L (rM Γ L x) H) (hi : i = nI n) (hn : n < 8) (hdg : decode cc pc = .ok (.iaload, 1)) (kk : W p l e R s m args below meth c H locs cells slots Q (F0 m (pc + 1) ls (.int (x.2.1 19 n) :: rest))) : W p l e R s m args below meth c H locs cells slots Q (F0 m pc ls (.int i :: .ref (L (.inr (0, 19, 0))) :: rest)) := by
  subst hi
  refine r_ald19 X hw (vp_in_nI hn (by decide)) hdg ?_
  rw [nI_clamp (by omega)]
  exact kk
theorem r_ast19N {i : Int32} {v : Int32} {n : Nat} (X : mX Γ p m c cc nL s args RX10 A) (hw : mW Γ.1 vwCl A L (rM Γ L x) H) (hS : va_S A s.heap H locs) (hi : i = nI n) (hn : n < 8) (hdg : decode cc pc = .ok (.iastore, 1)) (kk : ∀ (H1 : Heap) (locs1 : List Loc), mW Γ.1 vwCl A L (rM Γ L (sA x 19 n v)) H1 → va_S A s.heap H1 locs1 → W p l e R s m args below meth c H1 locs1 cells slots Q (F0 m (pc + 1) ls rest)) : W p l e R s m args below meth c H locs cells slots Q (F0 m pc ls (.int v :: .int i :: .ref (L (.inr (0, 19, 0))) :: rest)) := by
  subst hi
  refine r_ast19 X hw hS (vp_in_nI hn (by decide)) hdg ?_
  rw [nI_clamp (by omega)]
  exact kk
theorem r_ald20N {i : Int32} {n : Nat} (X : mX Γ p m c cc nL s args RX10 A) (hw : mW Γ.1 vwCl A L (rM Γ L x) H) (hi : i = nI n) (hn : n < 8) (hdg : decode cc pc = .ok (.iaload, 1)) (kk : W p l e R s m args below meth c H locs cells slots Q (F0 m (pc + 1) ls (.int (x.2.1 20 n) :: rest))) : W p l e R s m args below meth c H locs cells slots Q (F0 m pc ls (.int i :: .ref (L (.inr (0, 20, 0))) :: rest)) := by
  subst hi
  refine r_ald20 X hw (vp_in_nI hn (by decide)) hdg ?_
  rw [nI_clamp (by omega)]
  exact kk
theorem r_ast20N {i : Int32} {v : Int32} {n : Nat} (X : mX Γ p m c cc nL s args RX10 A) (hw : mW Γ.1 vwCl A L (rM Γ L x) H) (hS : va_S A s.heap H locs) (hi : i = nI n) (hn : n < 8) (hdg : decode cc pc = .ok (.iastore, 1)) (kk : ∀ (H1 : Heap) (locs1 : List Loc), mW Γ.1 vwCl A L (rM Γ L (sA x 20 n v)) H1 → va_S A s.heap H1 locs1 → W p l e R s m args below meth c H1 locs1 cells slots Q (F0 m (pc + 1) ls rest)) : W p l e R s m args below meth c H locs cells slots Q (F0 m pc ls (.int v :: .int i :: .ref (L (.inr (0, 20, 0))) :: rest)) := by
  subst hi
  refine r_ast20 X hw hS (vp_in_nI hn (by decide)) hdg ?_
  rw [nI_clamp (by omega)]
  exact kk
theorem r_ald21N {i : Int32} {n : Nat} (X : mX Γ p m c cc nL s args RX10 A) (hw : mW Γ.1 vwCl A L (rM Γ L x) H) (hi : i = nI n) (hn : n < 8) (hdg : decode cc pc = .ok (.iaload, 1)) (kk : W p l e R s m args below meth c H locs cells slots Q (F0 m (pc + 1) ls (.int (x.2.1 21 n) :: rest))) : W p l e R s m args below meth c H locs cells slots Q (F0 m pc ls (.int i :: .ref (L (.inr (0, 21, 0))) :: rest)) := by
  subst hi
  refine r_ald21 X hw (vp_in_nI hn (by decide)) hdg ?_
  rw [nI_clamp (by omega)]
  exact kk
theorem r_ast21N {i : Int32} {v : Int32} {n : Nat} (X : mX Γ p m c cc nL s args RX10 A) (hw : mW Γ.1 vwCl A L (rM Γ L x) H) (hS : va_S A s.heap H locs) (hi : i = nI n) (hn : n < 8) (hdg : decode cc pc = .ok (.iastore, 1)) (kk : ∀ (H1 : Heap) (locs1 : List Loc), mW Γ.1 vwCl A L (rM Γ L (sA x 21 n v)) H1 → va_S A s.heap H1 locs1 → W p l e R s m args below meth c H1 locs1 cells slots Q (F0 m (pc + 1) ls rest)) : W p l e R s m args below meth c H locs cells slots Q (F0 m pc ls (.int v :: .int i :: .ref (L (.inr (0, 21, 0))) :: rest)) := by
  subst hi
  refine r_ast21 X hw hS (vp_in_nI hn (by decide)) hdg ?_
  rw [nI_clamp (by omega)]
  exact kk
theorem r_ald24N {i : Int32} {n : Nat} (X : mX Γ p m c cc nL s args RX10 A) (hw : mW Γ.1 vwCl A L (rM Γ L x) H) (hi : i = nI n) (hn : n < 20) (hdg : decode cc pc = .ok (.iaload, 1)) (kk : W p l e R s m args below meth c H locs cells slots Q (F0 m (pc + 1) ls (.int (x.2.1 24 n) :: rest))) : W p l e R s m args below meth c H locs cells slots Q (F0 m pc ls (.int i :: .ref (L (.inr (0, 24, 0))) :: rest)) := by
  subst hi
  refine r_ald24 X hw (vp_in_nI hn (by decide)) hdg ?_
  rw [nI_clamp (by omega)]
  exact kk
theorem r_ast24N {i : Int32} {v : Int32} {n : Nat} (X : mX Γ p m c cc nL s args RX10 A) (hw : mW Γ.1 vwCl A L (rM Γ L x) H) (hS : va_S A s.heap H locs) (hi : i = nI n) (hn : n < 20) (hdg : decode cc pc = .ok (.iastore, 1)) (kk : ∀ (H1 : Heap) (locs1 : List Loc), mW Γ.1 vwCl A L (rM Γ L (sA x 24 n v)) H1 → va_S A s.heap H1 locs1 → W p l e R s m args below meth c H1 locs1 cells slots Q (F0 m (pc + 1) ls rest)) : W p l e R s m args below meth c H locs cells slots Q (F0 m pc ls (.int v :: .int i :: .ref (L (.inr (0, 24, 0))) :: rest)) := by
  subst hi
  refine r_ast24 X hw hS (vp_in_nI hn (by decide)) hdg ?_
  rw [nI_clamp (by omega)]
  exact kk
theorem r_ald25N {i : Int32} {n : Nat} (X : mX Γ p m c cc nL s args RX10 A) (hw : mW Γ.1 vwCl A L (rM Γ L x) H) (hi : i = nI n) (hn : n < 20) (hdg : decode cc pc = .ok (.iaload, 1)) (kk : W p l e R s m args below meth c H locs cells slots Q (F0 m (pc + 1) ls (.int (x.2.1 25 n) :: rest))) : W p l e R s m args below meth c H locs cells slots Q (F0 m pc ls (.int i :: .ref (L (.inr (0, 25, 0))) :: rest)) := by
  subst hi
  refine r_ald25 X hw (vp_in_nI hn (by decide)) hdg ?_
  rw [nI_clamp (by omega)]
  exact kk
theorem r_ast25N {i : Int32} {v : Int32} {n : Nat} (X : mX Γ p m c cc nL s args RX10 A) (hw : mW Γ.1 vwCl A L (rM Γ L x) H) (hS : va_S A s.heap H locs) (hi : i = nI n) (hn : n < 20) (hdg : decode cc pc = .ok (.iastore, 1)) (kk : ∀ (H1 : Heap) (locs1 : List Loc), mW Γ.1 vwCl A L (rM Γ L (sA x 25 n v)) H1 → va_S A s.heap H1 locs1 → W p l e R s m args below meth c H1 locs1 cells slots Q (F0 m (pc + 1) ls rest)) : W p l e R s m args below meth c H locs cells slots Q (F0 m pc ls (.int v :: .int i :: .ref (L (.inr (0, 25, 0))) :: rest)) := by
  subst hi
  refine r_ast25 X hw hS (vp_in_nI hn (by decide)) hdg ?_
  rw [nI_clamp (by omega)]
  exact kk
theorem r_ald26N {i : Int32} {n : Nat} (X : mX Γ p m c cc nL s args RX10 A) (hw : mW Γ.1 vwCl A L (rM Γ L x) H) (hi : i = nI n) (hn : n < 20) (hdg : decode cc pc = .ok (.iaload, 1)) (kk : W p l e R s m args below meth c H locs cells slots Q (F0 m (pc + 1) ls (.int (x.2.1 26 n) :: rest))) : W p l e R s m args below meth c H locs cells slots Q (F0 m pc ls (.int i :: .ref (L (.inr (0, 26, 0))) :: rest)) := by
  subst hi
  refine r_ald26 X hw (vp_in_nI hn (by decide)) hdg ?_
  rw [nI_clamp (by omega)]
  exact kk
theorem r_ast26N {i : Int32} {v : Int32} {n : Nat} (X : mX Γ p m c cc nL s args RX10 A) (hw : mW Γ.1 vwCl A L (rM Γ L x) H) (hS : va_S A s.heap H locs) (hi : i = nI n) (hn : n < 20) (hdg : decode cc pc = .ok (.iastore, 1)) (kk : ∀ (H1 : Heap) (locs1 : List Loc), mW Γ.1 vwCl A L (rM Γ L (sA x 26 n v)) H1 → va_S A s.heap H1 locs1 → W p l e R s m args below meth c H1 locs1 cells slots Q (F0 m (pc + 1) ls rest)) : W p l e R s m args below meth c H locs cells slots Q (F0 m pc ls (.int v :: .int i :: .ref (L (.inr (0, 26, 0))) :: rest)) := by
  subst hi
  refine r_ast26 X hw hS (vp_in_nI hn (by decide)) hdg ?_
  rw [nI_clamp (by omega)]
  exact kk
theorem r_ald27N {i : Int32} {n : Nat} (X : mX Γ p m c cc nL s args RX10 A) (hw : mW Γ.1 vwCl A L (rM Γ L x) H) (hi : i = nI n) (hn : n < 600) (hdg : decode cc pc = .ok (.laload, 1)) (kk : W p l e R s m args below meth c H locs cells slots Q (F0 m (pc + 1) ls (.long (x.2.2 27 n) :: rest))) : W p l e R s m args below meth c H locs cells slots Q (F0 m pc ls (.int i :: .ref (L (.inr (0, 27, 0))) :: rest)) := by
  subst hi
  refine r_ald27 X hw (vp_in_nI hn (by decide)) hdg ?_
  rw [nI_clamp (by omega)]
  exact kk
theorem r_ast27N {i : Int32} {v : Int64} {n : Nat} (X : mX Γ p m c cc nL s args RX10 A) (hw : mW Γ.1 vwCl A L (rM Γ L x) H) (hS : va_S A s.heap H locs) (hi : i = nI n) (hn : n < 600) (hdg : decode cc pc = .ok (.lastore, 1)) (kk : ∀ (H1 : Heap) (locs1 : List Loc), mW Γ.1 vwCl A L (rM Γ L (sJ x 27 n v)) H1 → va_S A s.heap H1 locs1 → W p l e R s m args below meth c H1 locs1 cells slots Q (F0 m (pc + 1) ls rest)) : W p l e R s m args below meth c H locs cells slots Q (F0 m pc ls (.long v :: .int i :: .ref (L (.inr (0, 27, 0))) :: rest)) := by
  subst hi
  refine r_ast27 X hw hS (vp_in_nI hn (by decide)) hdg ?_
  rw [nI_clamp (by omega)]
  exact kk
end RN
