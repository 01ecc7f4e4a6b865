/-! THE CLAIM OUT OF ONE WALK OF THE LAW'S BODY. Your part is whole_start (and what it stands on); all else here is the same for every law, but numbers. -/
def R_law : String := "KindJudgeLaw"
def lw_P (b : Addr) (xs : List Int32) (args : Array Value) (s : State) : Prop := args = #[.ref b] ∧ s.IntsAt b xs ∧ xs.length ≤ 3072 ∧ (Jvm.Cond.and given_1 narrow_1).before args s = true
def lw_Q (_ : Array Value) (s : State) (o : Outcome) (t : State) : Prop := o = .returned (some (.int 1)) ∧ Framed s o t [] 600000 7302249
def lw_Z (below : List Frame) (a : Array Value) (s : State) : State → Prop := fun t => ∃ o, t.status = .running ∧ Ended t below o ∧ lw_Q a s o t
/-- the law's own end, with 1 on the stack, nothing written that was there before, its room as the claim has it -/
theorem lw_ret {p : Program} {l : Launch} {e : Env} {s : State} {m : MethodId} {below : List Frame} {meth : Method} {c : Code} {b : Nat} (hx : p.tables.exec = Jvm.exec) (hb : c.code = code) (hr : meth.sig.returnType = ret) (hlocks : meth.locks = false) {pc : Nat} {H : Heap} {ls : Array Slot} (hdg : decode code pc = .ok (.ireturn, 1)) : W p l e room_1 s m #[Value.ref b] below meth c H [] 600000 7302249 (lw_Z below #[Value.ref b] s) (F0 m pc ls [.int 1]) := by
  intro T hT X
  obtain ⟨fs, hret, hrun, hended, hW, hframe⟩ := X.leave (v := some (.int 1)) (hlocks := hlocks) (fun h => by rw [hr] at h; cases h)
  have hmeth' : T.vm.method? m = some meth := X.method'
  refine ⟨T.setFrames fs, ?_, .returned (some (.int 1)), hrun, hended, rfl, ⟨_, rfl⟩, hW, hframe⟩
  jvm_step X.here [X.here.top, hx, hb, hdg, hmeth', hr, ret, narrow_b1]
  (try refine ⟨rfl, ?_⟩); (try refine ⟨rfl, ?_⟩)
  first | (intro acts; rw [hret _ acts rfl rfl rfl]) | rw [hret _ _ rfl rfl rfl]
  exact Steps.refl _
/-- what holds at the law's entry: the machine, the code, the tables' words (any of lw_tbl by 'hts w (by decide +kernel)'), the script of L ints xs at the cell b, what the Statement gives of the start (any of its parts by flat_of_before) -/
def lw_At (p : Program) (s : State) (m : MethodId) (meth : Method) (c : Code) (b L : Nat) (xs : Nat → Int32) : Prop :=
  p.tables.exec = Jvm.exec ∧ c.code = code ∧ meth.sig.returnType = ret ∧ c.maxLocals = 4 ∧ s.vm.findClass R_law = some m.cls ∧ (∀ w ∈ lw_tbl, w.before #[Value.ref b] s = true) ∧ va_X b L xs s s.heap ∧ b < s.heap.size ∧ meth.locks = false ∧ (Jvm.Cond.and given_1 narrow_1).before #[Value.ref b] s = true
set_option maxHeartbeats 4000000 in
set_option maxRecDepth 100000 in
theorem lw_out {p : Program} {l : Launch} {e : Env} {s : State} {m : MethodId} {below : List Frame} {meth : Method} {c : Code} {b cells slots : Nat} {H : Heap} {ls : Array Slot} (hx : p.tables.exec = Jvm.exec) (hb : c.code = code) (hr : meth.sig.returnType = ret) (hlocks : meth.locks = false) (hc : cells ≤ 600000) (hs : slots ≤ 7302249) : W p l e room_1 s m #[Value.ref b] below meth c H [] cells slots (lw_Z below #[Value.ref b] s) (F0 m 648 ls []) := by
  refine W.widen (k := 600000) (n := 7302249) hc hs ?_
  refine lv_iconst (v := 1) hx hb dL_law_648 (by decide) ?_
  exact lw_ret hx hb hr hlocks dL_law_649
theorem lw_gt {k L : Nat} {i : Int32} (hi : i = nI k) (hk : k < 10000) (hL : L < 10000) : i > Int32.ofNat L - 6 ↔ L < k + 6 := by
  have e : (nI L - 6).toInt = (L : Int) - 6 := pk_sub_toInt (a := L) (b := 6) (by omega) (by decide)
  show Int32.ofNat L - 6 < i ↔ _
  rw [Int32.lt_iff_toInt_lt, hi, nI_toInt (by omega)]
  have e2 : (Int32.ofNat L - 6).toInt = (L : Int) - 6 := e
  rw [e2]
  omega
set_option maxHeartbeats 4000000 in
set_option maxRecDepth 100000 in
theorem lw_loop {p : Program} {l : Launch} {e : Env} {s : State} {m : MethodId} {below : List Frame} {meth : Method} {c : Code} {b L : Nat} {xs : Nat → Int32} {Γ : mG} {LR : mI → Nat} {q0 : Nat} (hr : meth.sig.returnType = ret) (hlocks : meth.locks = false) (X : mX Γ p m c code 4 s #[Value.ref b] RL (fun q => s.heap.size ≤ q)) (hX : va_X b L xs s s.heap) (hbl : b < s.heap.size) (hL : L ≤ 3072) : ∀ (u k ca sl : Nat) (i : Int32) (LC : mI → Nat) (c0 : CS) (x : RS) (H : Heap) (ls : Array Slot), L < k + 6 * u + 6 → k ≤ L → i = nI k → ca + 8 * u ≤ 600000 → sl + 156 * u ≤ 7302249 → lwW Γ s LC (cM Γ LC c0) LR (rM Γ LR x) H → CInv c0 → RInv x → LC (nm 0 0) = q0 → Tie3 c0 x → lv_has ls 4 [(3, .int i), (2, .ref (LR (.inl 0))), (1, .ref q0), (0, .ref b)] → W p l e room_1 s m #[Value.ref b] below meth c H [] ca sl (lw_Z below #[Value.ref b] s) (F0 m 18 ls []) := by
  have hx := X.1.1
  have hb := X.1.2.1
  have hbA : ¬ (fun q : Nat => s.heap.size ≤ q) b := Nat.not_le.mpr hbl
  have hL31 : L < 2 ^ 31 := by omega
  intro u
  induction u with
  | zero =>
    intro k ca sl i LC c0 x H ls hu hk hi hca hsl hw hI hR hq hTi hl
    refine lv_iload_n hx hb dL_law_18 rfl (lv_at hl 0 rfl) ?_
    refine lv_aload_n hx hb dL_law_19 rfl (lv_at hl 3 rfl) ?_
    refine va_slen hx hb hX hbl hbA hw.S dL_law_20 ?_
    refine lv_bipush (v := 6) hx hb dL_law_21 (by decide) ?_
    refine lv_isub hx hb dL_law_23 ?_
    exact lv_icmp_gt (tgt := 648) hx hb dL_law_24 (by decide) (fun _ => lw_out hx hb hr hlocks (by omega) (by omega)) (fun c6 => absurd ((lw_gt hi (by omega) (by omega)).mpr (by omega)) c6)
  | succ u ih =>
    intro k ca sl i LC c0 x H ls hu hk hi hca hsl hw hI hR hq hTi hl
    refine lv_iload_n hx hb dL_law_18 rfl (lv_at hl 0 rfl) ?_
    refine lv_aload_n hx hb dL_law_19 rfl (lv_at hl 3 rfl) ?_
    refine va_slen hx hb hX hbl hbA hw.S dL_law_20 ?_
    refine lv_bipush (v := 6) hx hb dL_law_21 (by decide) ?_
    refine lv_isub hx hb dL_law_23 ?_
    refine lv_icmp_gt (tgt := 648) hx hb dL_law_24 (by decide) (fun _ => lw_out hx hb hr hlocks (by omega) (by omega)) (fun c6 => ?_)
    have h6 : k + 5 < L := by
      have h9 : ¬ L < k + 6 := fun z => c6 ((lw_gt (L := L) hi (by omega) (by omega)).mpr z)
      omega
    subst hq
    have kk : lwK p l e s m below meth c (lw_Z below #[Value.ref b] s) ls Γ b (LC (nm 0 0)) LR ca sl := by
      intro LC1 c1 x1 H1 hw1 hI1 hR1 hq1 hT1
      refine lv_iinc (v := i + 6) (lv' := [(3, .int (i + 6)), (2, .ref (LR (.inl 0))), (1, .ref (LC (nm 0 0))), (0, .ref b)]) hx hb dL_law_642 hl (k := 0) rfl rfl (by decide) rfl (fun ls hl => ?_)
      refine lv_goto (tgt := 18) hx hb dL_law_645 (by decide) ?_
      exact ih (k + 6) (ca + 8) (sl + 156) _ LC1 c1 x1 H1 ls (by omega) (by omega) (nadd (a := k) (b := 6) hi rfl) (by omega) (by omega) hw1 hI1 hR1 hq1 hT1 hl
    refine lv_aload_n hx hb dL_law_27 rfl (lv_at hl 3 rfl) ?_
    refine lv_iload_n hx hb dL_law_28 rfl (lv_at hl 0 rfl) ?_
    refine va_sld hx hb hX hbl hbA hw.S (lw_in0 (k := k) hi (by omega) hL31) dL_law_29 ?_
    refine lv_bipush (v := 15) hx hb dL_law_30 (by decide) ?_
    refine lv_iand hx hb dL_law_32 ?_
    refine lv_topi (fun z ez => ?_)
    clear ez
    by_cases d0 : z.toInt < 0 ∨ 13 < z.toInt
    · refine lv_tableOut (tgt := 642) hx hb dL_law_33 d0 (by decide) ?_
      exact W.widen (k := ca + 8) (n := sl + 156) (by omega) (by omega) (kk _ _ _ _ hw hI hR rfl hTi)
    have d1 : z.toInt = 0 ∨ z.toInt = 1 ∨ z.toInt = 2 ∨ z.toInt = 3 ∨ z.toInt = 4 ∨ z.toInt = 5 ∨ z.toInt = 6 ∨ z.toInt = 7 ∨ z.toInt = 8 ∨ z.toInt = 9 ∨ z.toInt = 10 ∨ z.toInt = 11 ∨ z.toInt = 12 ∨ z.toInt = 13 := by omega
    rcases d1 with cv | cv | cv | cv | cv | cv | cv | cv | cv | cv | cv | cv | cv | cv
    · refine lv_tableIn (off := 71) (tgt := 104) hx hb dL_law_33 (by omega) (by omega) (by rw [cv]; rfl) (by decide) ?_
      exact lw_case0 (k := k) X hX hbl hL31 hi h6 (by omega) (by omega) hw hI hR hTi hl kk
    · refine lv_tableIn (off := 94) (tgt := 127) hx hb dL_law_33 (by omega) (by omega) (by rw [cv]; rfl) (by decide) ?_
      exact lw_case1 (k := k) X hX hbl hL31 hi h6 (by omega) (by omega) hw hI hR hTi hl kk
    · refine lv_tableIn (off := 167) (tgt := 200) hx hb dL_law_33 (by omega) (by omega) (by rw [cv]; rfl) (by decide) ?_
      exact lw_case2 (k := k) X hX hbl hL31 hi h6 (by omega) (by omega) hw hI hR hTi hl kk
    · refine lv_tableIn (off := 230) (tgt := 263) hx hb dL_law_33 (by omega) (by omega) (by rw [cv]; rfl) (by decide) ?_
      exact lw_case3 (k := k) X hX hbl hL31 hi h6 (by omega) (by omega) hw hI hR hTi hl kk
    · refine lv_tableIn (off := 273) (tgt := 306) hx hb dL_law_33 (by omega) (by omega) (by rw [cv]; rfl) (by decide) ?_
      exact lw_case4 (k := k) X hX hbl hL31 hi h6 (by omega) (by omega) hw hI hR hTi hl kk
    · refine lv_tableIn (off := 326) (tgt := 359) hx hb dL_law_33 (by omega) (by omega) (by rw [cv]; rfl) (by decide) ?_
      exact lw_case5 (k := k) X hX hbl hL31 hi h6 (by omega) (by omega) hw hI hR hTi hl kk
    · refine lv_tableIn (off := 349) (tgt := 382) hx hb dL_law_33 (by omega) (by omega) (by rw [cv]; rfl) (by decide) ?_
      exact lw_case6 (k := k) X hX hbl hL31 hi h6 (by omega) (by omega) hw hI hR hTi hl kk
    · refine lv_tableIn (off := 372) (tgt := 405) hx hb dL_law_33 (by omega) (by omega) (by rw [cv]; rfl) (by decide) ?_
      exact lw_case7 (k := k) X hX hbl hL31 hi h6 (by omega) (by omega) hw hI hR hTi hl kk
    · refine lv_tableIn (off := 405) (tgt := 438) hx hb dL_law_33 (by omega) (by omega) (by rw [cv]; rfl) (by decide) ?_
      exact lw_case8 (k := k) X hX hbl hL31 hi h6 (by omega) (by omega) hw hI hR hTi hl kk
    · refine lv_tableIn (off := 418) (tgt := 451) hx hb dL_law_33 (by omega) (by omega) (by rw [cv]; rfl) (by decide) ?_
      exact lw_case9 (k := k) X hX hbl hL31 hi h6 (by omega) (by omega) hw hI hR hTi hl kk
    · refine lv_tableIn (off := 477) (tgt := 510) hx hb dL_law_33 (by omega) (by omega) (by rw [cv]; rfl) (by decide) ?_
      exact lw_case10 (k := k) X hX hbl hL31 hi h6 (by omega) (by omega) hw hI hR hTi hl kk
    · refine lv_tableIn (off := 540) (tgt := 573) hx hb dL_law_33 (by omega) (by omega) (by rw [cv]; rfl) (by decide) ?_
      exact lw_case11 (k := k) X hX hbl hL31 hi h6 (by omega) (by omega) hw hI hR hTi hl kk
    · refine lv_tableIn (off := 553) (tgt := 586) hx hb dL_law_33 (by omega) (by omega) (by rw [cv]; rfl) (by decide) ?_
      exact lw_case12 (k := k) X hX hbl hL31 hi h6 (by omega) (by omega) hw hI hR hTi hl kk
    · refine lv_tableIn (off := 576) (tgt := 609) hx hb dL_law_33 (by omega) (by omega) (by rw [cv]; rfl) (by decide) ?_
      exact lw_case13 (k := k) X hX hbl hL31 hi h6 (by omega) (by omega) hw hI hR hTi hl kk
