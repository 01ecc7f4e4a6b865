/-! THE REFERENCE'S PURE METHODS, as functions -/
def r_isIn (v a b : Int64) : Bool := !decide (v < a) && !decide (b < v)
def r_above (c : Int32) : Int32 := if c = 0 ∨ 5 < c then -1 else if c = 1 then 0 else if c = 4 then 2 else 1
def r_up : Nat → Int32 → Int32 → Bool
  | 0, x, d => decide (x = d)
  | n + 1, x, d => if x = -1 ∨ x = d then decide (x = d) else r_up n (r_above x) d
def r_under (c d : Int32) : Bool := if c = d ∨ d = 0 then true else if d = 6 then decide (c = 3 ∨ c = 4) else if d = 7 then decide (c = 4 ∨ c = 5) else r_up 5 c d
def r_isObj (k : Int32) : Bool := r_isIn k.toInt64 10 17
def r_isRow (k : Int32) : Bool := r_isIn k.toInt64 21 25
def r_isThing (k : Int32) : Bool := decide (k = 5) || (r_isObj k || r_isRow k)
def r_isKind (k : Int32) : Bool := r_isIn k.toInt64 0 5 || (r_isObj k || (r_isRow k || r_isIn k.toInt64 100 139))
def r_goes (x y : Int32) : Bool := if x = y ∨ y = 0 then true else if x = 4 then r_isThing y else if (r_isObj x && r_isObj y) = true then (decide (15 < y) || r_under (x - 10) (y - 10)) else if ((decide (x = 5) || r_isRow x) && r_isObj y) = true then (decide (y = 10) || decide (15 < y)) else (r_isRow x && (r_isRow y && r_under (x - 20) (y - 20)))
def r_com : Nat → Int32 → Int32 → Int32
  | 0, x, _ => x
  | n + 1, x, d => if r_under d x = true then x else r_com n (r_above x) d
def r_common (c d : Int32) : Int32 := r_com 5 (if 5 < c then 0 else c) d
def r_join3 (x y : Int32) : Int32 := if (r_isThing x && r_isThing y) = true then 10 else 0
def r_join2 (x y : Int32) : Int32 := if (r_isRow x && r_isRow y) = true then 20 + r_common (x - 20) (y - 20) else r_join3 x y
def r_join1 (x y : Int32) : Int32 := if (r_isObj x && r_isObj y) = true then 10 + r_common (x - 10) (y - 10) else r_join2 x y
def r_joined (x y : Int32) : Int32 := if x = y then x else if x = 4 ∧ r_isThing y = true then y else if y = 4 ∧ r_isThing x = true then x else r_join1 x y
def r_one (k : Int32) : Bool := decide (k = 1) || decide (4 ≤ k)
def r_rk (z : Int32) : Nat := if z = -1 then 0 else if z = 0 ∨ 5 < z then 1 else if z = 1 then 2 else if z = 4 then 4 else 3
theorem r_rk5 (z : Int32) : r_rk z ≤ 5 := by unfold r_rk; repeat (first | split | omega)
theorem r_rk_pos {z : Int32} (h : ¬ z = -1) : ¬ r_rk z ≤ 0 := by unfold r_rk; rw [if_neg h]; repeat (first | split | omega)
theorem r_rk_dn {z : Int32} {n : Nat} (h : ¬ z = -1) (hn : r_rk z ≤ n + 1) : r_rk (r_above z) ≤ n := by
  unfold r_rk at hn
  rw [if_neg h] at hn
  unfold r_above
  by_cases h1 : z = 0 ∨ 5 < z
  · rw [if_pos h1]; exact Nat.zero_le _
  · rw [if_neg h1] at hn ⊢
    by_cases h2 : z = 1
    · rw [if_pos h2] at hn ⊢
      have : r_rk 0 = 1 := by decide
      omega
    · rw [if_neg h2] at hn ⊢
      by_cases h3 : z = 4
      · rw [if_pos h3] at hn ⊢
        have : r_rk 2 = 3 := by decide
        omega
      · rw [if_neg h3] at hn ⊢
        have : r_rk 1 = 2 := by decide
        omega
def r_rk2 (z : Int32) : Nat := if z = 0 then 0 else if z = 1 then 1 else if z = 4 then 3 else if 5 < z then 4 else 2
theorem r_rk2_0 {z : Int32} (h : r_rk2 z ≤ 0) : z = 0 := by
  unfold r_rk2 at h
  by_cases h1 : z = 0
  · exact h1
  · rw [if_neg h1] at h
    exfalso
    revert h
    repeat (first | split | (intro h; omega))
theorem r_rk2_5 {z : Int32} (_ : z ≤ 5) : r_rk2 z ≤ 5 := by unfold r_rk2; repeat (first | split | omega)
theorem r_under0 (d : Int32) : r_under d 0 = true := by simp [r_under]
theorem r_rk2_dn {z d : Int32} {n : Nat} (h : r_under d z = false) (hn : r_rk2 z ≤ n + 1) : r_rk2 (r_above z) ≤ n := by
  have h0 : ¬ z = 0 := fun e => by rw [e, r_under0] at h; cases h
  unfold r_rk2 at hn
  rw [if_neg h0] at hn
  unfold r_above
  by_cases h1 : z = 0 ∨ 5 < z
  · rw [if_pos h1]
    have h5 : 5 < z := h1.resolve_left h0
    have e1 : ¬ z = 1 := fun e => by rw [e] at h5; exact absurd h5 (by decide)
    have e4 : ¬ z = 4 := fun e => by rw [e] at h5; exact absurd h5 (by decide)
    rw [if_neg e1, if_neg e4, if_pos h5] at hn
    have : r_rk2 (-1) = 2 := by decide
    omega
  · rw [if_neg h1]
    by_cases h2 : z = 1
    · rw [if_pos h2] at hn ⊢
      have : r_rk2 0 = 0 := by decide
      omega
    · rw [if_neg h2] at hn ⊢
      by_cases h3 : z = 4
      · rw [if_pos h3] at hn ⊢
        have : r_rk2 2 = 2 := by decide
        omega
      · rw [if_neg h3] at hn ⊢
        rw [if_neg (fun q => h1 (Or.inr q))] at hn
        have : r_rk2 1 = 1 := by decide
        omega
theorem s_X10_isIn : mSm yX10_isIn cX10_isIn 6 (some .boolean) 3 := ⟨cd_X10_isIn, st_X10_isIn, ini_X10, by decide, by decide, by decide +kernel⟩
set_option maxHeartbeats 4000000 in
set_option maxRecDepth 100000 in
theorem k_X10_isIn (Γ : mG) (l : Launch) (L : mI → Nat) (M : mM) (v : Int64) (a : Int64) (b : Int64) : mMet Γ l yX10_isIn cX10_isIn 6 (some .boolean) { frames := 0, cells := 0, slots := 0, locals := 0 } [.long v, .long a, .long b] L M (mQi Γ (fun r L1 M1 => r = bI (r_isIn v a b) ∧ L1 = L ∧ M1 = M)) := by
  refine m_start (by decide) (Nat.le_of_ble_eq_true rfl) ?_
  intro p e s m args below meth c A ls X hr hlk hnm hw hS hl
  have hx := X.1.1
  have hb := X.1.2.1
  have hl : lv_has ls 6 [(0, .long v), (2, .long a), (4, .long b)] := hl
  refine lv_lload_n hx hb dX10_isIn_0 rfl (lv_at hl 0 rfl) ?_
  refine lv_lload_n hx hb dX10_isIn_1 rfl (lv_at hl 1 rfl) ?_
  refine m_lcmp_lt (tgt := 17) hx hb dX10_isIn_2 dX10_isIn_3 (by decide) (fun c_1 => ?_) (fun c_1 => ?_)
  · skip
    refine lv_iconst (v := 0) hx hb dX10_isIn_17 (by decide) ?_
    exact m_zret (b := r_isIn v a b) X hr hlk hw hS (Nat.zero_le _) (Nat.zero_le _) (by clear hb hx hl hS hw hnm hlk hr X; first | rfl | (simp_all [bI, r_isIn]; done) | (simp_all [bI, r_isIn]; rfl)) (⟨rfl, rfl, rfl⟩) dX10_isIn_18
  · skip
    refine lv_lload_n hx hb dX10_isIn_6 rfl (lv_at hl 0 rfl) ?_
    refine lv_lload hx hb dX10_isIn_7 (lv_at hl 2 rfl) ?_
    refine m_lcmp_gt (tgt := 17) hx hb dX10_isIn_9 dX10_isIn_10 (by decide) (fun c_2 => ?_) (fun c_2 => ?_)
    · skip
      refine lv_iconst (v := 0) hx hb dX10_isIn_17 (by decide) ?_
      exact m_zret (b := r_isIn v a b) X hr hlk hw hS (Nat.zero_le _) (Nat.zero_le _) (by clear hb hx hl hS hw hnm hlk hr X; first | rfl | (simp_all [bI, r_isIn]; done) | (simp_all [bI, r_isIn]; rfl)) (⟨rfl, rfl, rfl⟩) dX10_isIn_18
    · skip
      refine lv_iconst (v := 1) hx hb dX10_isIn_13 (by decide) ?_
      refine lv_goto (tgt := 18) hx hb dX10_isIn_14 (by decide) ?_
      exact m_zret (b := r_isIn v a b) X hr hlk hw hS (Nat.zero_le _) (Nat.zero_le _) (by clear hb hx hl hS hw hnm hlk hr X; first | rfl | (simp_all [bI, r_isIn]; done) | (simp_all [bI, r_isIn]; rfl)) (⟨rfl, rfl, rfl⟩) dX10_isIn_18
theorem s_X10_above : mSm yX10_above cX10_above 1 (some .int) 1 := ⟨cd_X10_above, st_X10_above, ini_X10, by decide, by decide, by decide +kernel⟩
set_option maxHeartbeats 4000000 in
set_option maxRecDepth 100000 in
theorem k_X10_above (Γ : mG) (l : Launch) (L : mI → Nat) (M : mM) (a : Int32) : mMet Γ l yX10_above cX10_above 1 (some .int) { frames := 0, cells := 0, slots := 0, locals := 0 } [.int a] L M (mQi Γ (fun r L1 M1 => r = r_above a ∧ L1 = L ∧ M1 = M)) := by
  refine m_start (by decide) (Nat.le_of_ble_eq_true rfl) ?_
  intro p e s m args below meth c A ls X hr hlk hnm hw hS hl
  have hx := X.1.1
  have hb := X.1.2.1
  have hl : lv_has ls 1 [(0, .int a)] := hl
  refine lv_iload_n hx hb dX10_above_0 rfl (lv_at hl 0 rfl) ?_
  refine lv_if_eq (tgt := 9) hx hb dX10_above_1 (by decide) (fun c_1 => ?_) (fun c_1 => ?_)
  · skip
    refine lv_iconst (v := (-1)) hx hb dX10_above_9 (by decide) ?_
    refine lv_goto (tgt := 32) hx hb dX10_above_10 (by decide) ?_
    exact m_iret X hr hlk hw hS (Nat.zero_le _) (Nat.zero_le _) (⟨by clear hb hx hl hS hw hnm hlk hr X; first | rfl | (simp_all [bI, r_above]; done) | (simp_all [bI, r_above]; rfl), rfl, rfl⟩) dX10_above_32
  · skip
    refine lv_iload_n hx hb dX10_above_4 rfl (lv_at hl 0 rfl) ?_
    refine lv_iconst (v := 5) hx hb dX10_above_5 (by decide) ?_
    refine lv_icmp_le (tgt := 13) hx hb dX10_above_6 (by decide) (fun c_2 => ?_) (fun c_2 => ?_)
    · skip
      refine lv_iload_n hx hb dX10_above_13 rfl (lv_at hl 0 rfl) ?_
      refine lv_iconst (v := 1) hx hb dX10_above_14 (by decide) ?_
      refine lv_icmp_ne (tgt := 22) hx hb dX10_above_15 (by decide) (fun c_3 => ?_) (fun c_3 => ?_)
      · skip
        refine lv_iload_n hx hb dX10_above_22 rfl (lv_at hl 0 rfl) ?_
        refine lv_iconst (v := 4) hx hb dX10_above_23 (by decide) ?_
        refine lv_icmp_ne (tgt := 31) hx hb dX10_above_24 (by decide) (fun c_4 => ?_) (fun c_4 => ?_)
        · skip
          refine lv_iconst (v := 1) hx hb dX10_above_31 (by decide) ?_
          exact m_iret X hr hlk hw hS (Nat.zero_le _) (Nat.zero_le _) (⟨by clear hb hx hl hS hw hnm hlk hr X; first | rfl | (simp_all [bI, r_above]; done) | (simp_all [bI, r_above]; rfl), rfl, rfl⟩) dX10_above_32
        · skip
          refine lv_iconst (v := 2) hx hb dX10_above_27 (by decide) ?_
          refine lv_goto (tgt := 32) hx hb dX10_above_28 (by decide) ?_
          exact m_iret X hr hlk hw hS (Nat.zero_le _) (Nat.zero_le _) (⟨by clear hb hx hl hS hw hnm hlk hr X; first | rfl | (simp_all [bI, r_above]; done) | (simp_all [bI, r_above]; rfl), rfl, rfl⟩) dX10_above_32
      · skip
        refine lv_iconst (v := 0) hx hb dX10_above_18 (by decide) ?_
        refine lv_goto (tgt := 32) hx hb dX10_above_19 (by decide) ?_
        exact m_iret X hr hlk hw hS (Nat.zero_le _) (Nat.zero_le _) (⟨by clear hb hx hl hS hw hnm hlk hr X; first | rfl | (simp_all [bI, r_above]; done) | (simp_all [bI, r_above]; rfl), rfl, rfl⟩) dX10_above_32
    · skip
      refine lv_iconst (v := (-1)) hx hb dX10_above_9 (by decide) ?_
      refine lv_goto (tgt := 32) hx hb dX10_above_10 (by decide) ?_
      exact m_iret X hr hlk hw hS (Nat.zero_le _) (Nat.zero_le _) (⟨by clear hb hx hl hS hw hnm hlk hr X; first | rfl | (simp_all [bI, r_above]; done) | (simp_all [bI, r_above]; rfl), rfl, rfl⟩) dX10_above_32
theorem s_X10_isUnder : mSm yX10_isUnder cX10_isUnder 3 (some .boolean) 2 := ⟨cd_X10_isUnder, st_X10_isUnder, ini_X10, by decide, by decide, by decide +kernel⟩
set_option maxHeartbeats 4000000 in
set_option maxRecDepth 100000 in
theorem k_X10_isUnder (Γ : mG) (l : Launch) (L : mI → Nat) (M : mM) (a : Int32) (b : Int32) : mMet Γ l yX10_isUnder cX10_isUnder 3 (some .boolean) { frames := 1, cells := 0, slots := 0, locals := 20 } [.int a, .int b] L M (mQi Γ (fun r L1 M1 => r = bI (r_under a b) ∧ L1 = L ∧ M1 = M)) := by
  refine m_start (by decide) (Nat.le_of_ble_eq_true rfl) ?_
  intro p e s m args below meth c A ls X hr hlk hnm hw hS hl
  have hx := X.1.1
  have hb := X.1.2.1
  have hl : lv_has ls 3 [(0, .int a), (1, .int b)] := hl
  have KL : ∀ (n : Nat) (z : Int32) (H : Heap) (locs : List Loc) (ls : Array Slot), r_rk z ≤ n → r_under a b = r_up n z b → mW Γ.1 vwCl A L M H → va_S A s.heap H locs → lv_has ls 3 [(2, .int z), (0, .int a), (1, .int b)] → W p l e { frames := 1, cells := 0, slots := 0, locals := 20 } s m args below meth c H locs 0 0 (MQ below (mQi Γ (fun r L1 M1 => r = bI (r_under a b) ∧ L1 = L ∧ M1 = M) A) args s 0 0 A) (F0 m 57 ls []) := by
    intro n
    induction n with
    | zero =>
      intro z H locs ls hn he hw hS hl
      refine lv_iload_n hx hb dX10_isUnder_57 rfl (lv_at hl 0 rfl) ?_
      refine lv_iconst (v := (-1)) hx hb dX10_isUnder_58 (by decide) ?_
      refine lv_icmp_eq (tgt := 75) hx hb dX10_isUnder_59 (by decide) (fun c_1 => ?_) (fun c_1 => ?_)
      · skip
        refine lv_iload_n hx hb dX10_isUnder_75 rfl (lv_at hl 0 rfl) ?_
        refine lv_iload_n hx hb dX10_isUnder_76 rfl (lv_at hl 2 rfl) ?_
        refine lv_icmp_ne (tgt := 84) hx hb dX10_isUnder_77 (by decide) (fun c_2 => ?_) (fun c_2 => ?_)
        · skip
          refine lv_iconst (v := 0) hx hb dX10_isUnder_84 (by decide) ?_
          exact m_zret (b := r_under a b) X hr hlk hw hS (Nat.zero_le _) (Nat.zero_le _) (by rw [he]; clear he hb hx hl hS hw hnm hlk hr X; first | rfl | (simp_all [bI, r_up]; done) | (simp_all [bI, r_up]; rfl)) (⟨rfl, rfl, rfl⟩) dX10_isUnder_85
        · skip
          refine lv_iconst (v := 1) hx hb dX10_isUnder_80 (by decide) ?_
          refine lv_goto (tgt := 85) hx hb dX10_isUnder_81 (by decide) ?_
          exact m_zret (b := r_under a b) X hr hlk hw hS (Nat.zero_le _) (Nat.zero_le _) (by rw [he]; clear he hb hx hl hS hw hnm hlk hr X; first | rfl | (simp_all [bI, r_up]; done) | (simp_all [bI, r_up]; rfl)) (⟨rfl, rfl, rfl⟩) dX10_isUnder_85
      · skip
        refine lv_iload_n hx hb dX10_isUnder_62 rfl (lv_at hl 0 rfl) ?_
        refine lv_iload_n hx hb dX10_isUnder_63 rfl (lv_at hl 2 rfl) ?_
        refine lv_icmp_eq (tgt := 75) hx hb dX10_isUnder_64 (by decide) (fun c_3 => ?_) (fun c_3 => ?_)
        · skip
          refine lv_iload_n hx hb dX10_isUnder_75 rfl (lv_at hl 0 rfl) ?_
          refine lv_iload_n hx hb dX10_isUnder_76 rfl (lv_at hl 2 rfl) ?_
          refine lv_icmp_ne (tgt := 84) hx hb dX10_isUnder_77 (by decide) (fun c_4 => ?_) (fun c_4 => ?_)
          · skip
            refine lv_iconst (v := 0) hx hb dX10_isUnder_84 (by decide) ?_
            exact m_zret (b := r_under a b) X hr hlk hw hS (Nat.zero_le _) (Nat.zero_le _) (by rw [he]; clear he hb hx hl hS hw hnm hlk hr X; first | rfl | (simp_all [bI, r_up]; done) | (simp_all [bI, r_up]; rfl)) (⟨rfl, rfl, rfl⟩) dX10_isUnder_85
          · skip
            refine lv_iconst (v := 1) hx hb dX10_isUnder_80 (by decide) ?_
            refine lv_goto (tgt := 85) hx hb dX10_isUnder_81 (by decide) ?_
            exact m_zret (b := r_under a b) X hr hlk hw hS (Nat.zero_le _) (Nat.zero_le _) (by rw [he]; clear he hb hx hl hS hw hnm hlk hr X; first | rfl | (simp_all [bI, r_up]; done) | (simp_all [bI, r_up]; rfl)) (⟨rfl, rfl, rfl⟩) dX10_isUnder_85
        · skip
          refine lv_iload_n hx hb dX10_isUnder_67 rfl (lv_at hl 0 rfl) ?_
          refine m_calli (m_runS (As := [.int z]) (rest := []) X (k_X10_above Γ l L (M) z) s_X10_above ml_X10_83 hw hS rfl hl.1 ⟨Nat.le_of_ble_eq_true rfl, Nat.le_of_ble_eq_true rfl⟩ (Nat.le_of_ble_eq_true rfl) ⟨Nat.le_of_ble_eq_true rfl, Nat.le_of_ble_eq_true rfl⟩ dX10_isUnder_68) hS (fun r_6 L1 M1 H locs hp_5 hw hS => ?_)
          obtain ⟨rfl, e1, e2⟩ := hp_5
          rw [e1, e2] at hw; clear e1 e2
          refine lv_istore_n (lv' := [(2, .int (r_above z)), (0, .int a), (1, .int b)]) hx hb dX10_isUnder_71 rfl hl (by decide) rfl (fun ls hl => ?_)
          refine lv_goto (tgt := 57) hx hb dX10_isUnder_72 (by decide) ?_
          exact absurd hn (r_rk_pos c_1)
    | succ n ih =>
      intro z H locs ls hn he hw hS hl
      refine lv_iload_n hx hb dX10_isUnder_57 rfl (lv_at hl 0 rfl) ?_
      refine lv_iconst (v := (-1)) hx hb dX10_isUnder_58 (by decide) ?_
      refine lv_icmp_eq (tgt := 75) hx hb dX10_isUnder_59 (by decide) (fun c_7 => ?_) (fun c_7 => ?_)
      · skip
        refine lv_iload_n hx hb dX10_isUnder_75 rfl (lv_at hl 0 rfl) ?_
        refine lv_iload_n hx hb dX10_isUnder_76 rfl (lv_at hl 2 rfl) ?_
        refine lv_icmp_ne (tgt := 84) hx hb dX10_isUnder_77 (by decide) (fun c_8 => ?_) (fun c_8 => ?_)
        · skip
          refine lv_iconst (v := 0) hx hb dX10_isUnder_84 (by decide) ?_
          exact m_zret (b := r_under a b) X hr hlk hw hS (Nat.zero_le _) (Nat.zero_le _) (by rw [he]; clear he hb hx hl hS hw hnm hlk hr X; first | rfl | (simp_all [bI, r_up]; done) | (simp_all [bI, r_up]; rfl)) (⟨rfl, rfl, rfl⟩) dX10_isUnder_85
        · skip
          refine lv_iconst (v := 1) hx hb dX10_isUnder_80 (by decide) ?_
          refine lv_goto (tgt := 85) hx hb dX10_isUnder_81 (by decide) ?_
          exact m_zret (b := r_under a b) X hr hlk hw hS (Nat.zero_le _) (Nat.zero_le _) (by rw [he]; clear he hb hx hl hS hw hnm hlk hr X; first | rfl | (simp_all [bI, r_up]; done) | (simp_all [bI, r_up]; rfl)) (⟨rfl, rfl, rfl⟩) dX10_isUnder_85
      · skip
        refine lv_iload_n hx hb dX10_isUnder_62 rfl (lv_at hl 0 rfl) ?_
        refine lv_iload_n hx hb dX10_isUnder_63 rfl (lv_at hl 2 rfl) ?_
        refine lv_icmp_eq (tgt := 75) hx hb dX10_isUnder_64 (by decide) (fun c_9 => ?_) (fun c_9 => ?_)
        · skip
          refine lv_iload_n hx hb dX10_isUnder_75 rfl (lv_at hl 0 rfl) ?_
          refine lv_iload_n hx hb dX10_isUnder_76 rfl (lv_at hl 2 rfl) ?_
          refine lv_icmp_ne (tgt := 84) hx hb dX10_isUnder_77 (by decide) (fun c_10 => ?_) (fun c_10 => ?_)
          · skip
            refine lv_iconst (v := 0) hx hb dX10_isUnder_84 (by decide) ?_
            exact m_zret (b := r_under a b) X hr hlk hw hS (Nat.zero_le _) (Nat.zero_le _) (by rw [he]; clear he hb hx hl hS hw hnm hlk hr X; first | rfl | (simp_all [bI, r_up]; done) | (simp_all [bI, r_up]; rfl)) (⟨rfl, rfl, rfl⟩) dX10_isUnder_85
          · skip
            refine lv_iconst (v := 1) hx hb dX10_isUnder_80 (by decide) ?_
            refine lv_goto (tgt := 85) hx hb dX10_isUnder_81 (by decide) ?_
            exact m_zret (b := r_under a b) X hr hlk hw hS (Nat.zero_le _) (Nat.zero_le _) (by rw [he]; clear he hb hx hl hS hw hnm hlk hr X; first | rfl | (simp_all [bI, r_up]; done) | (simp_all [bI, r_up]; rfl)) (⟨rfl, rfl, rfl⟩) dX10_isUnder_85
        · skip
          refine lv_iload_n hx hb dX10_isUnder_67 rfl (lv_at hl 0 rfl) ?_
          refine m_calli (m_runS (As := [.int z]) (rest := []) X (k_X10_above Γ l L (M) z) s_X10_above ml_X10_83 hw hS rfl hl.1 ⟨Nat.le_of_ble_eq_true rfl, Nat.le_of_ble_eq_true rfl⟩ (Nat.le_of_ble_eq_true rfl) ⟨Nat.le_of_ble_eq_true rfl, Nat.le_of_ble_eq_true rfl⟩ dX10_isUnder_68) hS (fun r_12 L1 M1 H locs hp_11 hw hS => ?_)
          obtain ⟨rfl, e1, e2⟩ := hp_11
          rw [e1, e2] at hw; clear e1 e2
          refine lv_istore_n (lv' := [(2, .int (r_above z)), (0, .int a), (1, .int b)]) hx hb dX10_isUnder_71 rfl hl (by decide) rfl (fun ls hl => ?_)
          refine lv_goto (tgt := 57) hx hb dX10_isUnder_72 (by decide) ?_
          exact ih _ H locs ls (r_rk_dn c_7 hn) (by rw [he]; clear hb hx hl hS hw hnm hlk hr X he ih; simp_all [r_up]) hw hS hl
  refine lv_iload_n hx hb dX10_isUnder_0 rfl (lv_at hl 0 rfl) ?_
  refine lv_iload_n hx hb dX10_isUnder_1 rfl (lv_at hl 1 rfl) ?_
  refine lv_icmp_eq (tgt := 9) hx hb dX10_isUnder_2 (by decide) (fun c_13 => ?_) (fun c_13 => ?_)
  · skip
    refine lv_iconst (v := 1) hx hb dX10_isUnder_9 (by decide) ?_
    exact m_zret (b := r_under a b) X hr hlk hw hS (Nat.zero_le _) (Nat.zero_le _) (by clear KL hb hx hl hS hw hnm hlk hr X; first | rfl | (simp_all [bI, r_under]; done) | (simp_all [bI, r_under]; rfl)) (⟨rfl, rfl, rfl⟩) dX10_isUnder_10
  · skip
    refine lv_iload_n hx hb dX10_isUnder_5 rfl (lv_at hl 1 rfl) ?_
    refine lv_if_ne (tgt := 11) hx hb dX10_isUnder_6 (by decide) (fun c_14 => ?_) (fun c_14 => ?_)
    · skip
      refine lv_iload_n hx hb dX10_isUnder_11 rfl (lv_at hl 1 rfl) ?_
      refine lv_bipush (v := 6) hx hb dX10_isUnder_12 (by decide) ?_
      refine lv_icmp_ne (tgt := 33) hx hb dX10_isUnder_14 (by decide) (fun c_15 => ?_) (fun c_15 => ?_)
      · skip
        refine lv_iload_n hx hb dX10_isUnder_33 rfl (lv_at hl 1 rfl) ?_
        refine lv_bipush (v := 7) hx hb dX10_isUnder_34 (by decide) ?_
        refine lv_icmp_ne (tgt := 55) hx hb dX10_isUnder_36 (by decide) (fun c_16 => ?_) (fun c_16 => ?_)
        · skip
          refine lv_iload_n hx hb dX10_isUnder_55 rfl (lv_at hl 0 rfl) ?_
          refine lv_istore_n (lv' := [(2, .int a), (0, .int a), (1, .int b)]) hx hb dX10_isUnder_56 rfl hl (by decide) rfl (fun ls hl => ?_)
          exact KL 5 _ _ _ ls (r_rk5 _) (by clear KL hb hx hl hS hw hnm hlk hr X; simp_all [r_under]) hw hS hl
        · skip
          refine lv_iload_n hx hb dX10_isUnder_39 rfl (lv_at hl 0 rfl) ?_
          refine lv_iconst (v := 4) hx hb dX10_isUnder_40 (by decide) ?_
          refine lv_icmp_eq (tgt := 49) hx hb dX10_isUnder_41 (by decide) (fun c_17 => ?_) (fun c_17 => ?_)
          · skip
            refine lv_iconst (v := 1) hx hb dX10_isUnder_49 (by decide) ?_
            refine lv_goto (tgt := 54) hx hb dX10_isUnder_50 (by decide) ?_
            exact m_zret (b := r_under a b) X hr hlk hw hS (Nat.zero_le _) (Nat.zero_le _) (by clear KL hb hx hl hS hw hnm hlk hr X; first | rfl | (simp_all [bI, r_under]; done) | (simp_all [bI, r_under]; rfl)) (⟨rfl, rfl, rfl⟩) dX10_isUnder_54
          · skip
            refine lv_iload_n hx hb dX10_isUnder_44 rfl (lv_at hl 0 rfl) ?_
            refine lv_iconst (v := 5) hx hb dX10_isUnder_45 (by decide) ?_
            refine lv_icmp_ne (tgt := 53) hx hb dX10_isUnder_46 (by decide) (fun c_18 => ?_) (fun c_18 => ?_)
            · skip
              refine lv_iconst (v := 0) hx hb dX10_isUnder_53 (by decide) ?_
              exact m_zret (b := r_under a b) X hr hlk hw hS (Nat.zero_le _) (Nat.zero_le _) (by clear KL hb hx hl hS hw hnm hlk hr X; first | rfl | (simp_all [bI, r_under]; done) | (simp_all [bI, r_under]; rfl)) (⟨rfl, rfl, rfl⟩) dX10_isUnder_54
            · skip
              refine lv_iconst (v := 1) hx hb dX10_isUnder_49 (by decide) ?_
              refine lv_goto (tgt := 54) hx hb dX10_isUnder_50 (by decide) ?_
              exact m_zret (b := r_under a b) X hr hlk hw hS (Nat.zero_le _) (Nat.zero_le _) (by clear KL hb hx hl hS hw hnm hlk hr X; first | rfl | (simp_all [bI, r_under]; done) | (simp_all [bI, r_under]; rfl)) (⟨rfl, rfl, rfl⟩) dX10_isUnder_54
      · skip
        refine lv_iload_n hx hb dX10_isUnder_17 rfl (lv_at hl 0 rfl) ?_
        refine lv_iconst (v := 3) hx hb dX10_isUnder_18 (by decide) ?_
        refine lv_icmp_eq (tgt := 27) hx hb dX10_isUnder_19 (by decide) (fun c_19 => ?_) (fun c_19 => ?_)
        · skip
          refine lv_iconst (v := 1) hx hb dX10_isUnder_27 (by decide) ?_
          refine lv_goto (tgt := 32) hx hb dX10_isUnder_28 (by decide) ?_
          exact m_zret (b := r_under a b) X hr hlk hw hS (Nat.zero_le _) (Nat.zero_le _) (by clear KL hb hx hl hS hw hnm hlk hr X; first | rfl | (simp_all [bI, r_under]; done) | (simp_all [bI, r_under]; rfl)) (⟨rfl, rfl, rfl⟩) dX10_isUnder_32
        · skip
          refine lv_iload_n hx hb dX10_isUnder_22 rfl (lv_at hl 0 rfl) ?_
          refine lv_iconst (v := 4) hx hb dX10_isUnder_23 (by decide) ?_
          refine lv_icmp_ne (tgt := 31) hx hb dX10_isUnder_24 (by decide) (fun c_20 => ?_) (fun c_20 => ?_)
          · skip
            refine lv_iconst (v := 0) hx hb dX10_isUnder_31 (by decide) ?_
            exact m_zret (b := r_under a b) X hr hlk hw hS (Nat.zero_le _) (Nat.zero_le _) (by clear KL hb hx hl hS hw hnm hlk hr X; first | rfl | (simp_all [bI, r_under]; done) | (simp_all [bI, r_under]; rfl)) (⟨rfl, rfl, rfl⟩) dX10_isUnder_32
          · skip
            refine lv_iconst (v := 1) hx hb dX10_isUnder_27 (by decide) ?_
            refine lv_goto (tgt := 32) hx hb dX10_isUnder_28 (by decide) ?_
            exact m_zret (b := r_under a b) X hr hlk hw hS (Nat.zero_le _) (Nat.zero_le _) (by clear KL hb hx hl hS hw hnm hlk hr X; first | rfl | (simp_all [bI, r_under]; done) | (simp_all [bI, r_under]; rfl)) (⟨rfl, rfl, rfl⟩) dX10_isUnder_32
    · skip
      refine lv_iconst (v := 1) hx hb dX10_isUnder_9 (by decide) ?_
      exact m_zret (b := r_under a b) X hr hlk hw hS (Nat.zero_le _) (Nat.zero_le _) (by clear KL hb hx hl hS hw hnm hlk hr X; first | rfl | (simp_all [bI, r_under]; done) | (simp_all [bI, r_under]; rfl)) (⟨rfl, rfl, rfl⟩) dX10_isUnder_10
theorem s_X10_isObject : mSm yX10_isObject cX10_isObject 1 (some .boolean) 1 := ⟨cd_X10_isObject, st_X10_isObject, ini_X10, by decide, by decide, by decide +kernel⟩
set_option maxHeartbeats 4000000 in
set_option maxRecDepth 100000 in
theorem k_X10_isObject (Γ : mG) (l : Launch) (L : mI → Nat) (M : mM) (a : Int32) : mMet Γ l yX10_isObject cX10_isObject 1 (some .boolean) { frames := 1, cells := 0, slots := 0, locals := 25 } [.int a] L M (mQi Γ (fun r L1 M1 => r = bI (r_isObj a) ∧ L1 = L ∧ M1 = M)) := by
  refine m_start (by decide) (Nat.le_of_ble_eq_true rfl) ?_
  intro p e s m args below meth c A ls X hr hlk hnm hw hS hl
  have hx := X.1.1
  have hb := X.1.2.1
  have hl : lv_has ls 1 [(0, .int a)] := hl
  refine lv_iload_n hx hb dX10_isObject_0 rfl (lv_at hl 0 rfl) ?_
  refine lv_i2l (v := a.toInt64) hx hb dX10_isObject_1 rfl ?_
  refine lv_ldc2 (v := (10)) hx hb X.1.2.2.2.1 (X.1.2.2.2.2 _ kl_X10_87) dX10_isObject_2 ?_
  refine lv_ldc2 (v := (17)) hx hb X.1.2.2.2.1 (X.1.2.2.2.2 _ kl_X10_89) dX10_isObject_5 ?_
  refine m_calli (m_runS (As := [.long a.toInt64, .long (10), .long (17)]) (rest := []) X (k_X10_isIn Γ l L (M) a.toInt64 (10) (17)) s_X10_isIn ml_X10_79 hw hS rfl hl.1 ⟨Nat.le_of_ble_eq_true rfl, Nat.le_of_ble_eq_true rfl⟩ (Nat.le_of_ble_eq_true rfl) ⟨Nat.le_of_ble_eq_true rfl, Nat.le_of_ble_eq_true rfl⟩ dX10_isObject_8) hS (fun r_2 L1 M1 H locs hp_1 hw hS => ?_)
  obtain ⟨rfl, e1, e2⟩ := hp_1
  rw [e1, e2] at hw; clear e1 e2
  exact m_zret (b := r_isObj a) X hr hlk hw hS (Nat.zero_le _) (Nat.zero_le _) (by clear hb hx hl hS hw hnm hlk hr X; first | rfl | (simp_all [bI, r_isObj]; done) | (simp_all [bI, r_isObj]; rfl)) (⟨rfl, rfl, rfl⟩) dX10_isObject_11
theorem s_X10_isRow : mSm yX10_isRow cX10_isRow 1 (some .boolean) 1 := ⟨cd_X10_isRow, st_X10_isRow, ini_X10, by decide, by decide, by decide +kernel⟩
set_option maxHeartbeats 4000000 in
set_option maxRecDepth 100000 in
theorem k_X10_isRow (Γ : mG) (l : Launch) (L : mI → Nat) (M : mM) (a : Int32) : mMet Γ l yX10_isRow cX10_isRow 1 (some .boolean) { frames := 1, cells := 0, slots := 0, locals := 25 } [.int a] L M (mQi Γ (fun r L1 M1 => r = bI (r_isRow a) ∧ L1 = L ∧ M1 = M)) := by
  refine m_start (by decide) (Nat.le_of_ble_eq_true rfl) ?_
  intro p e s m args below meth c A ls X hr hlk hnm hw hS hl
  have hx := X.1.1
  have hb := X.1.2.1
  have hl : lv_has ls 1 [(0, .int a)] := hl
  refine lv_iload_n hx hb dX10_isRow_0 rfl (lv_at hl 0 rfl) ?_
  refine lv_i2l (v := a.toInt64) hx hb dX10_isRow_1 rfl ?_
  refine lv_ldc2 (v := (21)) hx hb X.1.2.2.2.1 (X.1.2.2.2.2 _ kl_X10_91) dX10_isRow_2 ?_
  refine lv_ldc2 (v := (25)) hx hb X.1.2.2.2.1 (X.1.2.2.2.2 _ kl_X10_93) dX10_isRow_5 ?_
  refine m_calli (m_runS (As := [.long a.toInt64, .long (21), .long (25)]) (rest := []) X (k_X10_isIn Γ l L (M) a.toInt64 (21) (25)) s_X10_isIn ml_X10_79 hw hS rfl hl.1 ⟨Nat.le_of_ble_eq_true rfl, Nat.le_of_ble_eq_true rfl⟩ (Nat.le_of_ble_eq_true rfl) ⟨Nat.le_of_ble_eq_true rfl, Nat.le_of_ble_eq_true rfl⟩ dX10_isRow_8) hS (fun r_2 L1 M1 H locs hp_1 hw hS => ?_)
  obtain ⟨rfl, e1, e2⟩ := hp_1
  rw [e1, e2] at hw; clear e1 e2
  exact m_zret (b := r_isRow a) X hr hlk hw hS (Nat.zero_le _) (Nat.zero_le _) (by clear hb hx hl hS hw hnm hlk hr X; first | rfl | (simp_all [bI, r_isRow]; done) | (simp_all [bI, r_isRow]; rfl)) (⟨rfl, rfl, rfl⟩) dX10_isRow_11
theorem s_X10_isThing : mSm yX10_isThing cX10_isThing 1 (some .boolean) 1 := ⟨cd_X10_isThing, st_X10_isThing, ini_X10, by decide, by decide, by decide +kernel⟩
set_option maxHeartbeats 4000000 in
set_option maxRecDepth 100000 in
theorem k_X10_isThing (Γ : mG) (l : Launch) (L : mI → Nat) (M : mM) (a : Int32) : mMet Γ l yX10_isThing cX10_isThing 1 (some .boolean) { frames := 2, cells := 0, slots := 0, locals := 45 } [.int a] L M (mQi Γ (fun r L1 M1 => r = bI (r_isThing a) ∧ L1 = L ∧ M1 = M)) := by
  refine m_start (by decide) (Nat.le_of_ble_eq_true rfl) ?_
  intro p e s m args below meth c A ls X hr hlk hnm hw hS hl
  have hx := X.1.1
  have hb := X.1.2.1
  have hl : lv_has ls 1 [(0, .int a)] := hl
  refine lv_iload_n hx hb dX10_isThing_0 rfl (lv_at hl 0 rfl) ?_
  refine lv_iconst (v := 5) hx hb dX10_isThing_1 (by decide) ?_
  refine lv_icmp_eq (tgt := 19) hx hb dX10_isThing_2 (by decide) (fun c_1 => ?_) (fun c_1 => ?_)
  · skip
    refine lv_iconst (v := 1) hx hb dX10_isThing_19 (by decide) ?_
    refine lv_goto (tgt := 24) hx hb dX10_isThing_20 (by decide) ?_
    exact m_zret (b := r_isThing a) X hr hlk hw hS (Nat.zero_le _) (Nat.zero_le _) (by clear hb hx hl hS hw hnm hlk hr X; first | rfl | (simp_all [bI, r_isThing]; done) | (simp_all [bI, r_isThing]; rfl)) (⟨rfl, rfl, rfl⟩) dX10_isThing_24
  · skip
    refine lv_iload_n hx hb dX10_isThing_5 rfl (lv_at hl 0 rfl) ?_
    refine m_calli (m_runS (As := [.int a]) (rest := []) X (k_X10_isObject Γ l L (M) a) s_X10_isObject ml_X10_95 hw hS rfl hl.1 ⟨Nat.le_of_ble_eq_true rfl, Nat.le_of_ble_eq_true rfl⟩ (Nat.le_of_ble_eq_true rfl) ⟨Nat.le_of_ble_eq_true rfl, Nat.le_of_ble_eq_true rfl⟩ dX10_isThing_6) hS (fun r_3 L1 M1 H locs hp_2 hw hS => ?_)
    obtain ⟨rfl, e1, e2⟩ := hp_2
    rw [e1, e2] at hw; clear e1 e2
    refine lv_if_ne (tgt := 19) hx hb dX10_isThing_9 (by decide) (fun c_4 => ?_) (fun c_4 => ?_)
    · skip
      have c_4 := bI_t c_4
      refine lv_iconst (v := 1) hx hb dX10_isThing_19 (by decide) ?_
      refine lv_goto (tgt := 24) hx hb dX10_isThing_20 (by decide) ?_
      exact m_zret (b := r_isThing a) X hr hlk hw hS (Nat.zero_le _) (Nat.zero_le _) (by clear hb hx hl hS hw hnm hlk hr X; first | rfl | (simp_all [bI, r_isThing]; done) | (simp_all [bI, r_isThing]; rfl)) (⟨rfl, rfl, rfl⟩) dX10_isThing_24
    · skip
      have c_4 := bI_f c_4
      refine lv_iload_n hx hb dX10_isThing_12 rfl (lv_at hl 0 rfl) ?_
      refine m_calli (m_runS (As := [.int a]) (rest := []) X (k_X10_isRow Γ l L (M) a) s_X10_isRow ml_X10_99 hw hS rfl hl.1 ⟨Nat.le_of_ble_eq_true rfl, Nat.le_of_ble_eq_true rfl⟩ (Nat.le_of_ble_eq_true rfl) ⟨Nat.le_of_ble_eq_true rfl, Nat.le_of_ble_eq_true rfl⟩ dX10_isThing_13) hS (fun r_6 L1 M1 H locs hp_5 hw hS => ?_)
      obtain ⟨rfl, e1, e2⟩ := hp_5
      rw [e1, e2] at hw; clear e1 e2
      refine lv_if_eq (tgt := 23) hx hb dX10_isThing_16 (by decide) (fun c_7 => ?_) (fun c_7 => ?_)
      · skip
        have c_7 := bI_f c_7
        refine lv_iconst (v := 0) hx hb dX10_isThing_23 (by decide) ?_
        exact m_zret (b := r_isThing a) X hr hlk hw hS (Nat.zero_le _) (Nat.zero_le _) (by clear hb hx hl hS hw hnm hlk hr X; first | rfl | (simp_all [bI, r_isThing]; done) | (simp_all [bI, r_isThing]; rfl)) (⟨rfl, rfl, rfl⟩) dX10_isThing_24
      · skip
        have c_7 := bI_t c_7
        refine lv_iconst (v := 1) hx hb dX10_isThing_19 (by decide) ?_
        refine lv_goto (tgt := 24) hx hb dX10_isThing_20 (by decide) ?_
        exact m_zret (b := r_isThing a) X hr hlk hw hS (Nat.zero_le _) (Nat.zero_le _) (by clear hb hx hl hS hw hnm hlk hr X; first | rfl | (simp_all [bI, r_isThing]; done) | (simp_all [bI, r_isThing]; rfl)) (⟨rfl, rfl, rfl⟩) dX10_isThing_24
theorem s_X10_isKind : mSm yX10_isKind cX10_isKind 1 (some .boolean) 1 := ⟨cd_X10_isKind, st_X10_isKind, ini_X10, by decide, by decide, by decide +kernel⟩
set_option maxHeartbeats 4000000 in
set_option maxRecDepth 100000 in
theorem k_X10_isKind (Γ : mG) (l : Launch) (L : mI → Nat) (M : mM) (a : Int32) : mMet Γ l yX10_isKind cX10_isKind 1 (some .boolean) { frames := 2, cells := 0, slots := 0, locals := 45 } [.int a] L M (mQi Γ (fun r L1 M1 => r = bI (r_isKind a) ∧ L1 = L ∧ M1 = M)) := by
  refine m_start (by decide) (Nat.le_of_ble_eq_true rfl) ?_
  intro p e s m args below meth c A ls X hr hlk hnm hw hS hl
  have hx := X.1.1
  have hb := X.1.2.1
  have hl : lv_has ls 1 [(0, .int a)] := hl
  refine lv_iload_n hx hb dX10_isKind_0 rfl (lv_at hl 0 rfl) ?_
  refine lv_i2l (v := a.toInt64) hx hb dX10_isKind_1 rfl ?_
  refine lv_lconst (v := 0) hx hb dX10_isKind_2 (by decide) ?_
  refine lv_ldc2 (v := (5)) hx hb X.1.2.2.2.1 (X.1.2.2.2.2 _ kl_X10_102) dX10_isKind_3 ?_
  refine m_calli (m_runS (As := [.long a.toInt64, .long 0, .long (5)]) (rest := []) X (k_X10_isIn Γ l L (M) a.toInt64 0 (5)) s_X10_isIn ml_X10_79 hw hS rfl hl.1 ⟨Nat.le_of_ble_eq_true rfl, Nat.le_of_ble_eq_true rfl⟩ (Nat.le_of_ble_eq_true rfl) ⟨Nat.le_of_ble_eq_true rfl, Nat.le_of_ble_eq_true rfl⟩ dX10_isKind_6) hS (fun r_2 L1 M1 H locs hp_1 hw hS => ?_)
  obtain ⟨rfl, e1, e2⟩ := hp_1
  rw [e1, e2] at hw; clear e1 e2
  refine lv_if_ne (tgt := 40) hx hb dX10_isKind_9 (by decide) (fun c_3 => ?_) (fun c_3 => ?_)
  · skip
    have c_3 := bI_t c_3
    refine lv_iconst (v := 1) hx hb dX10_isKind_40 (by decide) ?_
    refine lv_goto (tgt := 45) hx hb dX10_isKind_41 (by decide) ?_
    exact m_zret (b := r_isKind a) X hr hlk hw hS (Nat.zero_le _) (Nat.zero_le _) (by clear hb hx hl hS hw hnm hlk hr X; first | rfl | (simp_all [bI, r_isKind]; done) | (simp_all [bI, r_isKind]; rfl)) (⟨rfl, rfl, rfl⟩) dX10_isKind_45
  · skip
    have c_3 := bI_f c_3
    refine lv_iload_n hx hb dX10_isKind_12 rfl (lv_at hl 0 rfl) ?_
    refine m_calli (m_runS (As := [.int a]) (rest := []) X (k_X10_isObject Γ l L (M) a) s_X10_isObject ml_X10_95 hw hS rfl hl.1 ⟨Nat.le_of_ble_eq_true rfl, Nat.le_of_ble_eq_true rfl⟩ (Nat.le_of_ble_eq_true rfl) ⟨Nat.le_of_ble_eq_true rfl, Nat.le_of_ble_eq_true rfl⟩ dX10_isKind_13) hS (fun r_5 L1 M1 H locs hp_4 hw hS => ?_)
    obtain ⟨rfl, e1, e2⟩ := hp_4
    rw [e1, e2] at hw; clear e1 e2
    refine lv_if_ne (tgt := 40) hx hb dX10_isKind_16 (by decide) (fun c_6 => ?_) (fun c_6 => ?_)
    · skip
      have c_6 := bI_t c_6
      refine lv_iconst (v := 1) hx hb dX10_isKind_40 (by decide) ?_
      refine lv_goto (tgt := 45) hx hb dX10_isKind_41 (by decide) ?_
      exact m_zret (b := r_isKind a) X hr hlk hw hS (Nat.zero_le _) (Nat.zero_le _) (by clear hb hx hl hS hw hnm hlk hr X; first | rfl | (simp_all [bI, r_isKind]; done) | (simp_all [bI, r_isKind]; rfl)) (⟨rfl, rfl, rfl⟩) dX10_isKind_45
    · skip
      have c_6 := bI_f c_6
      refine lv_iload_n hx hb dX10_isKind_19 rfl (lv_at hl 0 rfl) ?_
      refine m_calli (m_runS (As := [.int a]) (rest := []) X (k_X10_isRow Γ l L (M) a) s_X10_isRow ml_X10_99 hw hS rfl hl.1 ⟨Nat.le_of_ble_eq_true rfl, Nat.le_of_ble_eq_true rfl⟩ (Nat.le_of_ble_eq_true rfl) ⟨Nat.le_of_ble_eq_true rfl, Nat.le_of_ble_eq_true rfl⟩ dX10_isKind_20) hS (fun r_8 L1 M1 H locs hp_7 hw hS => ?_)
      obtain ⟨rfl, e1, e2⟩ := hp_7
      rw [e1, e2] at hw; clear e1 e2
      refine lv_if_ne (tgt := 40) hx hb dX10_isKind_23 (by decide) (fun c_9 => ?_) (fun c_9 => ?_)
      · skip
        have c_9 := bI_t c_9
        refine lv_iconst (v := 1) hx hb dX10_isKind_40 (by decide) ?_
        refine lv_goto (tgt := 45) hx hb dX10_isKind_41 (by decide) ?_
        exact m_zret (b := r_isKind a) X hr hlk hw hS (Nat.zero_le _) (Nat.zero_le _) (by clear hb hx hl hS hw hnm hlk hr X; first | rfl | (simp_all [bI, r_isKind]; done) | (simp_all [bI, r_isKind]; rfl)) (⟨rfl, rfl, rfl⟩) dX10_isKind_45
      · skip
        have c_9 := bI_f c_9
        refine lv_iload_n hx hb dX10_isKind_26 rfl (lv_at hl 0 rfl) ?_
        refine lv_i2l (v := a.toInt64) hx hb dX10_isKind_27 rfl ?_
        refine lv_ldc2 (v := (100)) hx hb X.1.2.2.2.1 (X.1.2.2.2.2 _ kl_X10_104) dX10_isKind_28 ?_
        refine lv_ldc2 (v := (139)) hx hb X.1.2.2.2.1 (X.1.2.2.2.2 _ kl_X10_106) dX10_isKind_31 ?_
        refine m_calli (m_runS (As := [.long a.toInt64, .long (100), .long (139)]) (rest := []) X (k_X10_isIn Γ l L (M) a.toInt64 (100) (139)) s_X10_isIn ml_X10_79 hw hS rfl hl.1 ⟨Nat.le_of_ble_eq_true rfl, Nat.le_of_ble_eq_true rfl⟩ (Nat.le_of_ble_eq_true rfl) ⟨Nat.le_of_ble_eq_true rfl, Nat.le_of_ble_eq_true rfl⟩ dX10_isKind_34) hS (fun r_11 L1 M1 H locs hp_10 hw hS => ?_)
        obtain ⟨rfl, e1, e2⟩ := hp_10
        rw [e1, e2] at hw; clear e1 e2
        refine lv_if_eq (tgt := 44) hx hb dX10_isKind_37 (by decide) (fun c_12 => ?_) (fun c_12 => ?_)
        · skip
          have c_12 := bI_f c_12
          refine lv_iconst (v := 0) hx hb dX10_isKind_44 (by decide) ?_
          exact m_zret (b := r_isKind a) X hr hlk hw hS (Nat.zero_le _) (Nat.zero_le _) (by clear hb hx hl hS hw hnm hlk hr X; first | rfl | (simp_all [bI, r_isKind]; done) | (simp_all [bI, r_isKind]; rfl)) (⟨rfl, rfl, rfl⟩) dX10_isKind_45
        · skip
          have c_12 := bI_t c_12
          refine lv_iconst (v := 1) hx hb dX10_isKind_40 (by decide) ?_
          refine lv_goto (tgt := 45) hx hb dX10_isKind_41 (by decide) ?_
          exact m_zret (b := r_isKind a) X hr hlk hw hS (Nat.zero_le _) (Nat.zero_le _) (by clear hb hx hl hS hw hnm hlk hr X; first | rfl | (simp_all [bI, r_isKind]; done) | (simp_all [bI, r_isKind]; rfl)) (⟨rfl, rfl, rfl⟩) dX10_isKind_45
theorem s_X10_goes : mSm yX10_goes cX10_goes 2 (some .boolean) 2 := ⟨cd_X10_goes, st_X10_goes, ini_X10, by decide, by decide, by decide +kernel⟩
set_option maxHeartbeats 4000000 in
set_option maxRecDepth 100000 in
theorem k_X10_goes (Γ : mG) (l : Launch) (L : mI → Nat) (M : mM) (a : Int32) (b : Int32) : mMet Γ l yX10_goes cX10_goes 2 (some .boolean) { frames := 3, cells := 0, slots := 0, locals := 65 } [.int a, .int b] L M (mQi Γ (fun r L1 M1 => r = bI (r_goes a b) ∧ L1 = L ∧ M1 = M)) := by
  refine m_start (by decide) (Nat.le_of_ble_eq_true rfl) ?_
  intro p e s m args below meth c A ls X hr hlk hnm hw hS hl
  have hx := X.1.1
  have hb := X.1.2.1
  have hl : lv_has ls 2 [(0, .int a), (1, .int b)] := hl
  refine lv_iload_n hx hb dX10_goes_0 rfl (lv_at hl 0 rfl) ?_
  refine lv_iload_n hx hb dX10_goes_1 rfl (lv_at hl 1 rfl) ?_
  refine lv_icmp_eq (tgt := 9) hx hb dX10_goes_2 (by decide) (fun c_1 => ?_) (fun c_1 => ?_)
  · skip
    refine lv_iconst (v := 1) hx hb dX10_goes_9 (by decide) ?_
    exact m_zret (b := r_goes a b) X hr hlk hw hS (Nat.zero_le _) (Nat.zero_le _) (by clear hb hx hl hS hw hnm hlk hr X; first | rfl | (simp_all [bI, r_goes]; done) | (simp_all [bI, r_goes]; rfl)) (⟨rfl, rfl, rfl⟩) dX10_goes_10
  · skip
    refine lv_iload_n hx hb dX10_goes_5 rfl (lv_at hl 1 rfl) ?_
    refine lv_if_ne (tgt := 11) hx hb dX10_goes_6 (by decide) (fun c_2 => ?_) (fun c_2 => ?_)
    · skip
      refine lv_iload_n hx hb dX10_goes_11 rfl (lv_at hl 0 rfl) ?_
      refine lv_iconst (v := 4) hx hb dX10_goes_12 (by decide) ?_
      refine lv_icmp_ne (tgt := 21) hx hb dX10_goes_13 (by decide) (fun c_3 => ?_) (fun c_3 => ?_)
      · skip
        refine lv_iload_n hx hb dX10_goes_21 rfl (lv_at hl 0 rfl) ?_
        refine m_calli (m_runS (As := [.int a]) (rest := []) X (k_X10_isObject Γ l L (M) a) s_X10_isObject ml_X10_95 hw hS rfl hl.1 ⟨Nat.le_of_ble_eq_true rfl, Nat.le_of_ble_eq_true rfl⟩ (Nat.le_of_ble_eq_true rfl) ⟨Nat.le_of_ble_eq_true rfl, Nat.le_of_ble_eq_true rfl⟩ dX10_goes_22) hS (fun r_5 L1 M1 H locs hp_4 hw hS => ?_)
        obtain ⟨rfl, e1, e2⟩ := hp_4
        rw [e1, e2] at hw; clear e1 e2
        refine lv_if_eq (tgt := 61) hx hb dX10_goes_25 (by decide) (fun c_6 => ?_) (fun c_6 => ?_)
        · skip
          have c_6 := bI_f c_6
          refine lv_iload_n hx hb dX10_goes_61 rfl (lv_at hl 0 rfl) ?_
          refine lv_iconst (v := 5) hx hb dX10_goes_62 (by decide) ?_
          refine lv_icmp_eq (tgt := 73) hx hb dX10_goes_63 (by decide) (fun c_7 => ?_) (fun c_7 => ?_)
          · skip
            refine lv_iload_n hx hb dX10_goes_73 rfl (lv_at hl 1 rfl) ?_
            refine m_calli (m_runS (As := [.int b]) (rest := []) X (k_X10_isObject Γ l L (M) b) s_X10_isObject ml_X10_95 hw hS rfl hl.1 ⟨Nat.le_of_ble_eq_true rfl, Nat.le_of_ble_eq_true rfl⟩ (Nat.le_of_ble_eq_true rfl) ⟨Nat.le_of_ble_eq_true rfl, Nat.le_of_ble_eq_true rfl⟩ dX10_goes_74) hS (fun r_9 L1 M1 H locs hp_8 hw hS => ?_)
            obtain ⟨rfl, e1, e2⟩ := hp_8
            rw [e1, e2] at hw; clear e1 e2
            refine lv_if_eq (tgt := 98) hx hb dX10_goes_77 (by decide) (fun c_10 => ?_) (fun c_10 => ?_)
            · skip
              have c_10 := bI_f c_10
              refine lv_iload_n hx hb dX10_goes_98 rfl (lv_at hl 0 rfl) ?_
              refine m_calli (m_runS (As := [.int a]) (rest := []) X (k_X10_isRow Γ l L (M) a) s_X10_isRow ml_X10_99 hw hS rfl hl.1 ⟨Nat.le_of_ble_eq_true rfl, Nat.le_of_ble_eq_true rfl⟩ (Nat.le_of_ble_eq_true rfl) ⟨Nat.le_of_ble_eq_true rfl, Nat.le_of_ble_eq_true rfl⟩ dX10_goes_99) hS (fun r_12 L1 M1 H locs hp_11 hw hS => ?_)
              obtain ⟨rfl, e1, e2⟩ := hp_11
              rw [e1, e2] at hw; clear e1 e2
              refine lv_if_eq (tgt := 130) hx hb dX10_goes_102 (by decide) (fun c_13 => ?_) (fun c_13 => ?_)
              · skip
                have c_13 := bI_f c_13
                refine lv_iconst (v := 0) hx hb dX10_goes_130 (by decide) ?_
                exact m_zret (b := r_goes a b) X hr hlk hw hS (Nat.zero_le _) (Nat.zero_le _) (by clear hb hx hl hS hw hnm hlk hr X; first | rfl | (simp_all [bI, r_goes]; done) | (simp_all [bI, r_goes]; rfl)) (⟨rfl, rfl, rfl⟩) dX10_goes_131
              · skip
                have c_13 := bI_t c_13
                refine lv_iload_n hx hb dX10_goes_105 rfl (lv_at hl 1 rfl) ?_
                refine m_calli (m_runS (As := [.int b]) (rest := []) X (k_X10_isRow Γ l L (M) b) s_X10_isRow ml_X10_99 hw hS rfl hl.1 ⟨Nat.le_of_ble_eq_true rfl, Nat.le_of_ble_eq_true rfl⟩ (Nat.le_of_ble_eq_true rfl) ⟨Nat.le_of_ble_eq_true rfl, Nat.le_of_ble_eq_true rfl⟩ dX10_goes_106) hS (fun r_15 L1 M1 H locs hp_14 hw hS => ?_)
                obtain ⟨rfl, e1, e2⟩ := hp_14
                rw [e1, e2] at hw; clear e1 e2
                refine lv_if_eq (tgt := 130) hx hb dX10_goes_109 (by decide) (fun c_16 => ?_) (fun c_16 => ?_)
                · skip
                  have c_16 := bI_f c_16
                  refine lv_iconst (v := 0) hx hb dX10_goes_130 (by decide) ?_
                  exact m_zret (b := r_goes a b) X hr hlk hw hS (Nat.zero_le _) (Nat.zero_le _) (by clear hb hx hl hS hw hnm hlk hr X; first | rfl | (simp_all [bI, r_goes]; done) | (simp_all [bI, r_goes]; rfl)) (⟨rfl, rfl, rfl⟩) dX10_goes_131
                · skip
                  have c_16 := bI_t c_16
                  refine lv_iload_n hx hb dX10_goes_112 rfl (lv_at hl 0 rfl) ?_
                  refine lv_bipush (v := 20) hx hb dX10_goes_113 (by decide) ?_
                  refine lv_isub hx hb dX10_goes_115 ?_
                  refine lv_iload_n hx hb dX10_goes_116 rfl (lv_at hl 1 rfl) ?_
                  refine lv_bipush (v := 20) hx hb dX10_goes_117 (by decide) ?_
                  refine lv_isub hx hb dX10_goes_119 ?_
                  refine m_calli (m_runS (As := [.int (a - 20), .int (b - 20)]) (rest := []) X (k_X10_isUnder Γ l L (M) (a - 20) (b - 20)) s_X10_isUnder ml_X10_111 hw hS rfl hl.1 ⟨Nat.le_of_ble_eq_true rfl, Nat.le_of_ble_eq_true rfl⟩ (Nat.le_of_ble_eq_true rfl) ⟨Nat.le_of_ble_eq_true rfl, Nat.le_of_ble_eq_true rfl⟩ dX10_goes_120) hS (fun r_18 L1 M1 H locs hp_17 hw hS => ?_)
                  obtain ⟨rfl, e1, e2⟩ := hp_17
                  rw [e1, e2] at hw; clear e1 e2
                  refine lv_if_eq (tgt := 130) hx hb dX10_goes_123 (by decide) (fun c_19 => ?_) (fun c_19 => ?_)
                  · skip
                    have c_19 := bI_f c_19
                    refine lv_iconst (v := 0) hx hb dX10_goes_130 (by decide) ?_
                    exact m_zret (b := r_goes a b) X hr hlk hw hS (Nat.zero_le _) (Nat.zero_le _) (by clear hb hx hl hS hw hnm hlk hr X; first | rfl | (simp_all [bI, r_goes]; done) | (simp_all [bI, r_goes]; rfl)) (⟨rfl, rfl, rfl⟩) dX10_goes_131
                  · skip
                    have c_19 := bI_t c_19
                    refine lv_iconst (v := 1) hx hb dX10_goes_126 (by decide) ?_
                    refine lv_goto (tgt := 131) hx hb dX10_goes_127 (by decide) ?_
                    exact m_zret (b := r_goes a b) X hr hlk hw hS (Nat.zero_le _) (Nat.zero_le _) (by clear hb hx hl hS hw hnm hlk hr X; first | rfl | (simp_all [bI, r_goes]; done) | (simp_all [bI, r_goes]; rfl)) (⟨rfl, rfl, rfl⟩) dX10_goes_131
            · skip
              have c_10 := bI_t c_10
              refine lv_iload_n hx hb dX10_goes_80 rfl (lv_at hl 1 rfl) ?_
              refine lv_bipush (v := 10) hx hb dX10_goes_81 (by decide) ?_
              refine lv_icmp_eq (tgt := 92) hx hb dX10_goes_83 (by decide) (fun c_20 => ?_) (fun c_20 => ?_)
              · skip
                refine lv_iconst (v := 1) hx hb dX10_goes_92 (by decide) ?_
                refine lv_goto (tgt := 97) hx hb dX10_goes_93 (by decide) ?_
                exact m_zret (b := r_goes a b) X hr hlk hw hS (Nat.zero_le _) (Nat.zero_le _) (by clear hb hx hl hS hw hnm hlk hr X; first | rfl | (simp_all [bI, r_goes]; done) | (simp_all [bI, r_goes]; rfl)) (⟨rfl, rfl, rfl⟩) dX10_goes_97
              · skip
                refine lv_iload_n hx hb dX10_goes_86 rfl (lv_at hl 1 rfl) ?_
                refine lv_bipush (v := 15) hx hb dX10_goes_87 (by decide) ?_
                refine lv_icmp_le (tgt := 96) hx hb dX10_goes_89 (by decide) (fun c_21 => ?_) (fun c_21 => ?_)
                · skip
                  refine lv_iconst (v := 0) hx hb dX10_goes_96 (by decide) ?_
                  exact m_zret (b := r_goes a b) X hr hlk hw hS (Nat.zero_le _) (Nat.zero_le _) (by clear hb hx hl hS hw hnm hlk hr X; first | rfl | (simp_all [bI, r_goes]; done) | (simp_all [bI, r_goes]; rfl)) (⟨rfl, rfl, rfl⟩) dX10_goes_97
                · skip
                  refine lv_iconst (v := 1) hx hb dX10_goes_92 (by decide) ?_
                  refine lv_goto (tgt := 97) hx hb dX10_goes_93 (by decide) ?_
                  exact m_zret (b := r_goes a b) X hr hlk hw hS (Nat.zero_le _) (Nat.zero_le _) (by clear hb hx hl hS hw hnm hlk hr X; first | rfl | (simp_all [bI, r_goes]; done) | (simp_all [bI, r_goes]; rfl)) (⟨rfl, rfl, rfl⟩) dX10_goes_97
          · skip
            refine lv_iload_n hx hb dX10_goes_66 rfl (lv_at hl 0 rfl) ?_
            refine m_calli (m_runS (As := [.int a]) (rest := []) X (k_X10_isRow Γ l L (M) a) s_X10_isRow ml_X10_99 hw hS rfl hl.1 ⟨Nat.le_of_ble_eq_true rfl, Nat.le_of_ble_eq_true rfl⟩ (Nat.le_of_ble_eq_true rfl) ⟨Nat.le_of_ble_eq_true rfl, Nat.le_of_ble_eq_true rfl⟩ dX10_goes_67) hS (fun r_23 L1 M1 H locs hp_22 hw hS => ?_)
            obtain ⟨rfl, e1, e2⟩ := hp_22
            rw [e1, e2] at hw; clear e1 e2
            refine lv_if_eq (tgt := 98) hx hb dX10_goes_70 (by decide) (fun c_24 => ?_) (fun c_24 => ?_)
            · skip
              have c_24 := bI_f c_24
              refine lv_iload_n hx hb dX10_goes_98 rfl (lv_at hl 0 rfl) ?_
              refine m_calli (m_runS (As := [.int a]) (rest := []) X (k_X10_isRow Γ l L (M) a) s_X10_isRow ml_X10_99 hw hS rfl hl.1 ⟨Nat.le_of_ble_eq_true rfl, Nat.le_of_ble_eq_true rfl⟩ (Nat.le_of_ble_eq_true rfl) ⟨Nat.le_of_ble_eq_true rfl, Nat.le_of_ble_eq_true rfl⟩ dX10_goes_99) hS (fun r_26 L1 M1 H locs hp_25 hw hS => ?_)
              obtain ⟨rfl, e1, e2⟩ := hp_25
              rw [e1, e2] at hw; clear e1 e2
              refine lv_if_eq (tgt := 130) hx hb dX10_goes_102 (by decide) (fun c_27 => ?_) (fun c_27 => ?_)
              · skip
                have c_27 := bI_f c_27
                refine lv_iconst (v := 0) hx hb dX10_goes_130 (by decide) ?_
                exact m_zret (b := r_goes a b) X hr hlk hw hS (Nat.zero_le _) (Nat.zero_le _) (by clear hb hx hl hS hw hnm hlk hr X; first | rfl | (simp_all [bI, r_goes]; done) | (simp_all [bI, r_goes]; rfl)) (⟨rfl, rfl, rfl⟩) dX10_goes_131
              · skip
                have c_27 := bI_t c_27
                refine lv_iload_n hx hb dX10_goes_105 rfl (lv_at hl 1 rfl) ?_
                refine m_calli (m_runS (As := [.int b]) (rest := []) X (k_X10_isRow Γ l L (M) b) s_X10_isRow ml_X10_99 hw hS rfl hl.1 ⟨Nat.le_of_ble_eq_true rfl, Nat.le_of_ble_eq_true rfl⟩ (Nat.le_of_ble_eq_true rfl) ⟨Nat.le_of_ble_eq_true rfl, Nat.le_of_ble_eq_true rfl⟩ dX10_goes_106) hS (fun r_29 L1 M1 H locs hp_28 hw hS => ?_)
                obtain ⟨rfl, e1, e2⟩ := hp_28
                rw [e1, e2] at hw; clear e1 e2
                refine lv_if_eq (tgt := 130) hx hb dX10_goes_109 (by decide) (fun c_30 => ?_) (fun c_30 => ?_)
                · skip
                  have c_30 := bI_f c_30
                  refine lv_iconst (v := 0) hx hb dX10_goes_130 (by decide) ?_
                  exact m_zret (b := r_goes a b) X hr hlk hw hS (Nat.zero_le _) (Nat.zero_le _) (by clear hb hx hl hS hw hnm hlk hr X; first | rfl | (simp_all [bI, r_goes]; done) | (simp_all [bI, r_goes]; rfl)) (⟨rfl, rfl, rfl⟩) dX10_goes_131
                · skip
                  have c_30 := bI_t c_30
                  refine lv_iload_n hx hb dX10_goes_112 rfl (lv_at hl 0 rfl) ?_
                  refine lv_bipush (v := 20) hx hb dX10_goes_113 (by decide) ?_
                  refine lv_isub hx hb dX10_goes_115 ?_
                  refine lv_iload_n hx hb dX10_goes_116 rfl (lv_at hl 1 rfl) ?_
                  refine lv_bipush (v := 20) hx hb dX10_goes_117 (by decide) ?_
                  refine lv_isub hx hb dX10_goes_119 ?_
                  refine m_calli (m_runS (As := [.int (a - 20), .int (b - 20)]) (rest := []) X (k_X10_isUnder Γ l L (M) (a - 20) (b - 20)) s_X10_isUnder ml_X10_111 hw hS rfl hl.1 ⟨Nat.le_of_ble_eq_true rfl, Nat.le_of_ble_eq_true rfl⟩ (Nat.le_of_ble_eq_true rfl) ⟨Nat.le_of_ble_eq_true rfl, Nat.le_of_ble_eq_true rfl⟩ dX10_goes_120) hS (fun r_32 L1 M1 H locs hp_31 hw hS => ?_)
                  obtain ⟨rfl, e1, e2⟩ := hp_31
                  rw [e1, e2] at hw; clear e1 e2
                  refine lv_if_eq (tgt := 130) hx hb dX10_goes_123 (by decide) (fun c_33 => ?_) (fun c_33 => ?_)
                  · skip
                    have c_33 := bI_f c_33
                    refine lv_iconst (v := 0) hx hb dX10_goes_130 (by decide) ?_
                    exact m_zret (b := r_goes a b) X hr hlk hw hS (Nat.zero_le _) (Nat.zero_le _) (by clear hb hx hl hS hw hnm hlk hr X; first | rfl | (simp_all [bI, r_goes]; done) | (simp_all [bI, r_goes]; rfl)) (⟨rfl, rfl, rfl⟩) dX10_goes_131
                  · skip
                    have c_33 := bI_t c_33
                    refine lv_iconst (v := 1) hx hb dX10_goes_126 (by decide) ?_
                    refine lv_goto (tgt := 131) hx hb dX10_goes_127 (by decide) ?_
                    exact m_zret (b := r_goes a b) X hr hlk hw hS (Nat.zero_le _) (Nat.zero_le _) (by clear hb hx hl hS hw hnm hlk hr X; first | rfl | (simp_all [bI, r_goes]; done) | (simp_all [bI, r_goes]; rfl)) (⟨rfl, rfl, rfl⟩) dX10_goes_131
            · skip
              have c_24 := bI_t c_24
              refine lv_iload_n hx hb dX10_goes_73 rfl (lv_at hl 1 rfl) ?_
              refine m_calli (m_runS (As := [.int b]) (rest := []) X (k_X10_isObject Γ l L (M) b) s_X10_isObject ml_X10_95 hw hS rfl hl.1 ⟨Nat.le_of_ble_eq_true rfl, Nat.le_of_ble_eq_true rfl⟩ (Nat.le_of_ble_eq_true rfl) ⟨Nat.le_of_ble_eq_true rfl, Nat.le_of_ble_eq_true rfl⟩ dX10_goes_74) hS (fun r_35 L1 M1 H locs hp_34 hw hS => ?_)
              obtain ⟨rfl, e1, e2⟩ := hp_34
              rw [e1, e2] at hw; clear e1 e2
              refine lv_if_eq (tgt := 98) hx hb dX10_goes_77 (by decide) (fun c_36 => ?_) (fun c_36 => ?_)
              · skip
                have c_36 := bI_f c_36
                refine lv_iload_n hx hb dX10_goes_98 rfl (lv_at hl 0 rfl) ?_
                refine m_calli (m_runS (As := [.int a]) (rest := []) X (k_X10_isRow Γ l L (M) a) s_X10_isRow ml_X10_99 hw hS rfl hl.1 ⟨Nat.le_of_ble_eq_true rfl, Nat.le_of_ble_eq_true rfl⟩ (Nat.le_of_ble_eq_true rfl) ⟨Nat.le_of_ble_eq_true rfl, Nat.le_of_ble_eq_true rfl⟩ dX10_goes_99) hS (fun r_38 L1 M1 H locs hp_37 hw hS => ?_)
                obtain ⟨rfl, e1, e2⟩ := hp_37
                rw [e1, e2] at hw; clear e1 e2
                refine lv_if_eq (tgt := 130) hx hb dX10_goes_102 (by decide) (fun c_39 => ?_) (fun c_39 => ?_)
                · skip
                  have c_39 := bI_f c_39
                  refine lv_iconst (v := 0) hx hb dX10_goes_130 (by decide) ?_
                  exact m_zret (b := r_goes a b) X hr hlk hw hS (Nat.zero_le _) (Nat.zero_le _) (by clear hb hx hl hS hw hnm hlk hr X; first | rfl | (simp_all [bI, r_goes]; done) | (simp_all [bI, r_goes]; rfl)) (⟨rfl, rfl, rfl⟩) dX10_goes_131
                · skip
                  have c_39 := bI_t c_39
                  refine lv_iload_n hx hb dX10_goes_105 rfl (lv_at hl 1 rfl) ?_
                  refine m_calli (m_runS (As := [.int b]) (rest := []) X (k_X10_isRow Γ l L (M) b) s_X10_isRow ml_X10_99 hw hS rfl hl.1 ⟨Nat.le_of_ble_eq_true rfl, Nat.le_of_ble_eq_true rfl⟩ (Nat.le_of_ble_eq_true rfl) ⟨Nat.le_of_ble_eq_true rfl, Nat.le_of_ble_eq_true rfl⟩ dX10_goes_106) hS (fun r_41 L1 M1 H locs hp_40 hw hS => ?_)
                  obtain ⟨rfl, e1, e2⟩ := hp_40
                  rw [e1, e2] at hw; clear e1 e2
                  refine lv_if_eq (tgt := 130) hx hb dX10_goes_109 (by decide) (fun c_42 => ?_) (fun c_42 => ?_)
                  · skip
                    have c_42 := bI_f c_42
                    refine lv_iconst (v := 0) hx hb dX10_goes_130 (by decide) ?_
                    exact m_zret (b := r_goes a b) X hr hlk hw hS (Nat.zero_le _) (Nat.zero_le _) (by clear hb hx hl hS hw hnm hlk hr X; first | rfl | (simp_all [bI, r_goes]; done) | (simp_all [bI, r_goes]; rfl)) (⟨rfl, rfl, rfl⟩) dX10_goes_131
                  · skip
                    have c_42 := bI_t c_42
                    refine lv_iload_n hx hb dX10_goes_112 rfl (lv_at hl 0 rfl) ?_
                    refine lv_bipush (v := 20) hx hb dX10_goes_113 (by decide) ?_
                    refine lv_isub hx hb dX10_goes_115 ?_
                    refine lv_iload_n hx hb dX10_goes_116 rfl (lv_at hl 1 rfl) ?_
                    refine lv_bipush (v := 20) hx hb dX10_goes_117 (by decide) ?_
                    refine lv_isub hx hb dX10_goes_119 ?_
                    refine m_calli (m_runS (As := [.int (a - 20), .int (b - 20)]) (rest := []) X (k_X10_isUnder Γ l L (M) (a - 20) (b - 20)) s_X10_isUnder ml_X10_111 hw hS rfl hl.1 ⟨Nat.le_of_ble_eq_true rfl, Nat.le_of_ble_eq_true rfl⟩ (Nat.le_of_ble_eq_true rfl) ⟨Nat.le_of_ble_eq_true rfl, Nat.le_of_ble_eq_true rfl⟩ dX10_goes_120) hS (fun r_44 L1 M1 H locs hp_43 hw hS => ?_)
                    obtain ⟨rfl, e1, e2⟩ := hp_43
                    rw [e1, e2] at hw; clear e1 e2
                    refine lv_if_eq (tgt := 130) hx hb dX10_goes_123 (by decide) (fun c_45 => ?_) (fun c_45 => ?_)
                    · skip
                      have c_45 := bI_f c_45
                      refine lv_iconst (v := 0) hx hb dX10_goes_130 (by decide) ?_
                      exact m_zret (b := r_goes a b) X hr hlk hw hS (Nat.zero_le _) (Nat.zero_le _) (by clear hb hx hl hS hw hnm hlk hr X; first | rfl | (simp_all [bI, r_goes]; done) | (simp_all [bI, r_goes]; rfl)) (⟨rfl, rfl, rfl⟩) dX10_goes_131
                    · skip
                      have c_45 := bI_t c_45
                      refine lv_iconst (v := 1) hx hb dX10_goes_126 (by decide) ?_
                      refine lv_goto (tgt := 131) hx hb dX10_goes_127 (by decide) ?_
                      exact m_zret (b := r_goes a b) X hr hlk hw hS (Nat.zero_le _) (Nat.zero_le _) (by clear hb hx hl hS hw hnm hlk hr X; first | rfl | (simp_all [bI, r_goes]; done) | (simp_all [bI, r_goes]; rfl)) (⟨rfl, rfl, rfl⟩) dX10_goes_131
              · skip
                have c_36 := bI_t c_36
                refine lv_iload_n hx hb dX10_goes_80 rfl (lv_at hl 1 rfl) ?_
                refine lv_bipush (v := 10) hx hb dX10_goes_81 (by decide) ?_
                refine lv_icmp_eq (tgt := 92) hx hb dX10_goes_83 (by decide) (fun c_46 => ?_) (fun c_46 => ?_)
                · skip
                  refine lv_iconst (v := 1) hx hb dX10_goes_92 (by decide) ?_
                  refine lv_goto (tgt := 97) hx hb dX10_goes_93 (by decide) ?_
                  exact m_zret (b := r_goes a b) X hr hlk hw hS (Nat.zero_le _) (Nat.zero_le _) (by clear hb hx hl hS hw hnm hlk hr X; first | rfl | (simp_all [bI, r_goes]; done) | (simp_all [bI, r_goes]; rfl)) (⟨rfl, rfl, rfl⟩) dX10_goes_97
                · skip
                  refine lv_iload_n hx hb dX10_goes_86 rfl (lv_at hl 1 rfl) ?_
                  refine lv_bipush (v := 15) hx hb dX10_goes_87 (by decide) ?_
                  refine lv_icmp_le (tgt := 96) hx hb dX10_goes_89 (by decide) (fun c_47 => ?_) (fun c_47 => ?_)
                  · skip
                    refine lv_iconst (v := 0) hx hb dX10_goes_96 (by decide) ?_
                    exact m_zret (b := r_goes a b) X hr hlk hw hS (Nat.zero_le _) (Nat.zero_le _) (by clear hb hx hl hS hw hnm hlk hr X; first | rfl | (simp_all [bI, r_goes]; done) | (simp_all [bI, r_goes]; rfl)) (⟨rfl, rfl, rfl⟩) dX10_goes_97
                  · skip
                    refine lv_iconst (v := 1) hx hb dX10_goes_92 (by decide) ?_
                    refine lv_goto (tgt := 97) hx hb dX10_goes_93 (by decide) ?_
                    exact m_zret (b := r_goes a b) X hr hlk hw hS (Nat.zero_le _) (Nat.zero_le _) (by clear hb hx hl hS hw hnm hlk hr X; first | rfl | (simp_all [bI, r_goes]; done) | (simp_all [bI, r_goes]; rfl)) (⟨rfl, rfl, rfl⟩) dX10_goes_97
        · skip
          have c_6 := bI_t c_6
          refine lv_iload_n hx hb dX10_goes_28 rfl (lv_at hl 1 rfl) ?_
          refine m_calli (m_runS (As := [.int b]) (rest := []) X (k_X10_isObject Γ l L (M) b) s_X10_isObject ml_X10_95 hw hS rfl hl.1 ⟨Nat.le_of_ble_eq_true rfl, Nat.le_of_ble_eq_true rfl⟩ (Nat.le_of_ble_eq_true rfl) ⟨Nat.le_of_ble_eq_true rfl, Nat.le_of_ble_eq_true rfl⟩ dX10_goes_29) hS (fun r_49 L1 M1 H locs hp_48 hw hS => ?_)
          obtain ⟨rfl, e1, e2⟩ := hp_48
          rw [e1, e2] at hw; clear e1 e2
          refine lv_if_eq (tgt := 61) hx hb dX10_goes_32 (by decide) (fun c_50 => ?_) (fun c_50 => ?_)
          · skip
            have c_50 := bI_f c_50
            refine lv_iload_n hx hb dX10_goes_61 rfl (lv_at hl 0 rfl) ?_
            refine lv_iconst (v := 5) hx hb dX10_goes_62 (by decide) ?_
            refine lv_icmp_eq (tgt := 73) hx hb dX10_goes_63 (by decide) (fun c_51 => ?_) (fun c_51 => ?_)
            · skip
              refine lv_iload_n hx hb dX10_goes_73 rfl (lv_at hl 1 rfl) ?_
              refine m_calli (m_runS (As := [.int b]) (rest := []) X (k_X10_isObject Γ l L (M) b) s_X10_isObject ml_X10_95 hw hS rfl hl.1 ⟨Nat.le_of_ble_eq_true rfl, Nat.le_of_ble_eq_true rfl⟩ (Nat.le_of_ble_eq_true rfl) ⟨Nat.le_of_ble_eq_true rfl, Nat.le_of_ble_eq_true rfl⟩ dX10_goes_74) hS (fun r_53 L1 M1 H locs hp_52 hw hS => ?_)
              obtain ⟨rfl, e1, e2⟩ := hp_52
              rw [e1, e2] at hw; clear e1 e2
              refine lv_if_eq (tgt := 98) hx hb dX10_goes_77 (by decide) (fun c_54 => ?_) (fun c_54 => ?_)
              · skip
                have c_54 := bI_f c_54
                refine lv_iload_n hx hb dX10_goes_98 rfl (lv_at hl 0 rfl) ?_
                refine m_calli (m_runS (As := [.int a]) (rest := []) X (k_X10_isRow Γ l L (M) a) s_X10_isRow ml_X10_99 hw hS rfl hl.1 ⟨Nat.le_of_ble_eq_true rfl, Nat.le_of_ble_eq_true rfl⟩ (Nat.le_of_ble_eq_true rfl) ⟨Nat.le_of_ble_eq_true rfl, Nat.le_of_ble_eq_true rfl⟩ dX10_goes_99) hS (fun r_56 L1 M1 H locs hp_55 hw hS => ?_)
                obtain ⟨rfl, e1, e2⟩ := hp_55
                rw [e1, e2] at hw; clear e1 e2
                refine lv_if_eq (tgt := 130) hx hb dX10_goes_102 (by decide) (fun c_57 => ?_) (fun c_57 => ?_)
                · skip
                  have c_57 := bI_f c_57
                  refine lv_iconst (v := 0) hx hb dX10_goes_130 (by decide) ?_
                  exact m_zret (b := r_goes a b) X hr hlk hw hS (Nat.zero_le _) (Nat.zero_le _) (by clear hb hx hl hS hw hnm hlk hr X; first | rfl | (simp_all [bI, r_goes]; done) | (simp_all [bI, r_goes]; rfl)) (⟨rfl, rfl, rfl⟩) dX10_goes_131
                · skip
                  have c_57 := bI_t c_57
                  refine lv_iload_n hx hb dX10_goes_105 rfl (lv_at hl 1 rfl) ?_
                  refine m_calli (m_runS (As := [.int b]) (rest := []) X (k_X10_isRow Γ l L (M) b) s_X10_isRow ml_X10_99 hw hS rfl hl.1 ⟨Nat.le_of_ble_eq_true rfl, Nat.le_of_ble_eq_true rfl⟩ (Nat.le_of_ble_eq_true rfl) ⟨Nat.le_of_ble_eq_true rfl, Nat.le_of_ble_eq_true rfl⟩ dX10_goes_106) hS (fun r_59 L1 M1 H locs hp_58 hw hS => ?_)
                  obtain ⟨rfl, e1, e2⟩ := hp_58
                  rw [e1, e2] at hw; clear e1 e2
                  refine lv_if_eq (tgt := 130) hx hb dX10_goes_109 (by decide) (fun c_60 => ?_) (fun c_60 => ?_)
                  · skip
                    have c_60 := bI_f c_60
                    refine lv_iconst (v := 0) hx hb dX10_goes_130 (by decide) ?_
                    exact m_zret (b := r_goes a b) X hr hlk hw hS (Nat.zero_le _) (Nat.zero_le _) (by clear hb hx hl hS hw hnm hlk hr X; first | rfl | (simp_all [bI, r_goes]; done) | (simp_all [bI, r_goes]; rfl)) (⟨rfl, rfl, rfl⟩) dX10_goes_131
                  · skip
                    have c_60 := bI_t c_60
                    refine lv_iload_n hx hb dX10_goes_112 rfl (lv_at hl 0 rfl) ?_
                    refine lv_bipush (v := 20) hx hb dX10_goes_113 (by decide) ?_
                    refine lv_isub hx hb dX10_goes_115 ?_
                    refine lv_iload_n hx hb dX10_goes_116 rfl (lv_at hl 1 rfl) ?_
                    refine lv_bipush (v := 20) hx hb dX10_goes_117 (by decide) ?_
                    refine lv_isub hx hb dX10_goes_119 ?_
                    refine m_calli (m_runS (As := [.int (a - 20), .int (b - 20)]) (rest := []) X (k_X10_isUnder Γ l L (M) (a - 20) (b - 20)) s_X10_isUnder ml_X10_111 hw hS rfl hl.1 ⟨Nat.le_of_ble_eq_true rfl, Nat.le_of_ble_eq_true rfl⟩ (Nat.le_of_ble_eq_true rfl) ⟨Nat.le_of_ble_eq_true rfl, Nat.le_of_ble_eq_true rfl⟩ dX10_goes_120) hS (fun r_62 L1 M1 H locs hp_61 hw hS => ?_)
                    obtain ⟨rfl, e1, e2⟩ := hp_61
                    rw [e1, e2] at hw; clear e1 e2
                    refine lv_if_eq (tgt := 130) hx hb dX10_goes_123 (by decide) (fun c_63 => ?_) (fun c_63 => ?_)
                    · skip
                      have c_63 := bI_f c_63
                      refine lv_iconst (v := 0) hx hb dX10_goes_130 (by decide) ?_
                      exact m_zret (b := r_goes a b) X hr hlk hw hS (Nat.zero_le _) (Nat.zero_le _) (by clear hb hx hl hS hw hnm hlk hr X; first | rfl | (simp_all [bI, r_goes]; done) | (simp_all [bI, r_goes]; rfl)) (⟨rfl, rfl, rfl⟩) dX10_goes_131
                    · skip
                      have c_63 := bI_t c_63
                      refine lv_iconst (v := 1) hx hb dX10_goes_126 (by decide) ?_
                      refine lv_goto (tgt := 131) hx hb dX10_goes_127 (by decide) ?_
                      exact m_zret (b := r_goes a b) X hr hlk hw hS (Nat.zero_le _) (Nat.zero_le _) (by clear hb hx hl hS hw hnm hlk hr X; first | rfl | (simp_all [bI, r_goes]; done) | (simp_all [bI, r_goes]; rfl)) (⟨rfl, rfl, rfl⟩) dX10_goes_131
              · skip
                have c_54 := bI_t c_54
                refine lv_iload_n hx hb dX10_goes_80 rfl (lv_at hl 1 rfl) ?_
                refine lv_bipush (v := 10) hx hb dX10_goes_81 (by decide) ?_
                refine lv_icmp_eq (tgt := 92) hx hb dX10_goes_83 (by decide) (fun c_64 => ?_) (fun c_64 => ?_)
                · skip
                  refine lv_iconst (v := 1) hx hb dX10_goes_92 (by decide) ?_
                  refine lv_goto (tgt := 97) hx hb dX10_goes_93 (by decide) ?_
                  exact m_zret (b := r_goes a b) X hr hlk hw hS (Nat.zero_le _) (Nat.zero_le _) (by clear hb hx hl hS hw hnm hlk hr X; first | rfl | (simp_all [bI, r_goes]; done) | (simp_all [bI, r_goes]; rfl)) (⟨rfl, rfl, rfl⟩) dX10_goes_97
                · skip
                  refine lv_iload_n hx hb dX10_goes_86 rfl (lv_at hl 1 rfl) ?_
                  refine lv_bipush (v := 15) hx hb dX10_goes_87 (by decide) ?_
                  refine lv_icmp_le (tgt := 96) hx hb dX10_goes_89 (by decide) (fun c_65 => ?_) (fun c_65 => ?_)
                  · skip
                    refine lv_iconst (v := 0) hx hb dX10_goes_96 (by decide) ?_
                    exact m_zret (b := r_goes a b) X hr hlk hw hS (Nat.zero_le _) (Nat.zero_le _) (by clear hb hx hl hS hw hnm hlk hr X; first | rfl | (simp_all [bI, r_goes]; done) | (simp_all [bI, r_goes]; rfl)) (⟨rfl, rfl, rfl⟩) dX10_goes_97
                  · skip
                    refine lv_iconst (v := 1) hx hb dX10_goes_92 (by decide) ?_
                    refine lv_goto (tgt := 97) hx hb dX10_goes_93 (by decide) ?_
                    exact m_zret (b := r_goes a b) X hr hlk hw hS (Nat.zero_le _) (Nat.zero_le _) (by clear hb hx hl hS hw hnm hlk hr X; first | rfl | (simp_all [bI, r_goes]; done) | (simp_all [bI, r_goes]; rfl)) (⟨rfl, rfl, rfl⟩) dX10_goes_97
            · skip
              refine lv_iload_n hx hb dX10_goes_66 rfl (lv_at hl 0 rfl) ?_
              refine m_calli (m_runS (As := [.int a]) (rest := []) X (k_X10_isRow Γ l L (M) a) s_X10_isRow ml_X10_99 hw hS rfl hl.1 ⟨Nat.le_of_ble_eq_true rfl, Nat.le_of_ble_eq_true rfl⟩ (Nat.le_of_ble_eq_true rfl) ⟨Nat.le_of_ble_eq_true rfl, Nat.le_of_ble_eq_true rfl⟩ dX10_goes_67) hS (fun r_67 L1 M1 H locs hp_66 hw hS => ?_)
              obtain ⟨rfl, e1, e2⟩ := hp_66
              rw [e1, e2] at hw; clear e1 e2
              refine lv_if_eq (tgt := 98) hx hb dX10_goes_70 (by decide) (fun c_68 => ?_) (fun c_68 => ?_)
              · skip
                have c_68 := bI_f c_68
                refine lv_iload_n hx hb dX10_goes_98 rfl (lv_at hl 0 rfl) ?_
                refine m_calli (m_runS (As := [.int a]) (rest := []) X (k_X10_isRow Γ l L (M) a) s_X10_isRow ml_X10_99 hw hS rfl hl.1 ⟨Nat.le_of_ble_eq_true rfl, Nat.le_of_ble_eq_true rfl⟩ (Nat.le_of_ble_eq_true rfl) ⟨Nat.le_of_ble_eq_true rfl, Nat.le_of_ble_eq_true rfl⟩ dX10_goes_99) hS (fun r_70 L1 M1 H locs hp_69 hw hS => ?_)
                obtain ⟨rfl, e1, e2⟩ := hp_69
                rw [e1, e2] at hw; clear e1 e2
                refine lv_if_eq (tgt := 130) hx hb dX10_goes_102 (by decide) (fun c_71 => ?_) (fun c_71 => ?_)
                · skip
                  have c_71 := bI_f c_71
                  refine lv_iconst (v := 0) hx hb dX10_goes_130 (by decide) ?_
                  exact m_zret (b := r_goes a b) X hr hlk hw hS (Nat.zero_le _) (Nat.zero_le _) (by clear hb hx hl hS hw hnm hlk hr X; first | rfl | (simp_all [bI, r_goes]; done) | (simp_all [bI, r_goes]; rfl)) (⟨rfl, rfl, rfl⟩) dX10_goes_131
                · skip
                  have c_71 := bI_t c_71
                  refine lv_iload_n hx hb dX10_goes_105 rfl (lv_at hl 1 rfl) ?_
                  refine m_calli (m_runS (As := [.int b]) (rest := []) X (k_X10_isRow Γ l L (M) b) s_X10_isRow ml_X10_99 hw hS rfl hl.1 ⟨Nat.le_of_ble_eq_true rfl, Nat.le_of_ble_eq_true rfl⟩ (Nat.le_of_ble_eq_true rfl) ⟨Nat.le_of_ble_eq_true rfl, Nat.le_of_ble_eq_true rfl⟩ dX10_goes_106) hS (fun r_73 L1 M1 H locs hp_72 hw hS => ?_)
                  obtain ⟨rfl, e1, e2⟩ := hp_72
                  rw [e1, e2] at hw; clear e1 e2
                  refine lv_if_eq (tgt := 130) hx hb dX10_goes_109 (by decide) (fun c_74 => ?_) (fun c_74 => ?_)
                  · skip
                    have c_74 := bI_f c_74
                    refine lv_iconst (v := 0) hx hb dX10_goes_130 (by decide) ?_
                    exact m_zret (b := r_goes a b) X hr hlk hw hS (Nat.zero_le _) (Nat.zero_le _) (by clear hb hx hl hS hw hnm hlk hr X; first | rfl | (simp_all [bI, r_goes]; done) | (simp_all [bI, r_goes]; rfl)) (⟨rfl, rfl, rfl⟩) dX10_goes_131
                  · skip
                    have c_74 := bI_t c_74
                    refine lv_iload_n hx hb dX10_goes_112 rfl (lv_at hl 0 rfl) ?_
                    refine lv_bipush (v := 20) hx hb dX10_goes_113 (by decide) ?_
                    refine lv_isub hx hb dX10_goes_115 ?_
                    refine lv_iload_n hx hb dX10_goes_116 rfl (lv_at hl 1 rfl) ?_
                    refine lv_bipush (v := 20) hx hb dX10_goes_117 (by decide) ?_
                    refine lv_isub hx hb dX10_goes_119 ?_
                    refine m_calli (m_runS (As := [.int (a - 20), .int (b - 20)]) (rest := []) X (k_X10_isUnder Γ l L (M) (a - 20) (b - 20)) s_X10_isUnder ml_X10_111 hw hS rfl hl.1 ⟨Nat.le_of_ble_eq_true rfl, Nat.le_of_ble_eq_true rfl⟩ (Nat.le_of_ble_eq_true rfl) ⟨Nat.le_of_ble_eq_true rfl, Nat.le_of_ble_eq_true rfl⟩ dX10_goes_120) hS (fun r_76 L1 M1 H locs hp_75 hw hS => ?_)
                    obtain ⟨rfl, e1, e2⟩ := hp_75
                    rw [e1, e2] at hw; clear e1 e2
                    refine lv_if_eq (tgt := 130) hx hb dX10_goes_123 (by decide) (fun c_77 => ?_) (fun c_77 => ?_)
                    · skip
                      have c_77 := bI_f c_77
                      refine lv_iconst (v := 0) hx hb dX10_goes_130 (by decide) ?_
                      exact m_zret (b := r_goes a b) X hr hlk hw hS (Nat.zero_le _) (Nat.zero_le _) (by clear hb hx hl hS hw hnm hlk hr X; first | rfl | (simp_all [bI, r_goes]; done) | (simp_all [bI, r_goes]; rfl)) (⟨rfl, rfl, rfl⟩) dX10_goes_131
                    · skip
                      have c_77 := bI_t c_77
                      refine lv_iconst (v := 1) hx hb dX10_goes_126 (by decide) ?_
                      refine lv_goto (tgt := 131) hx hb dX10_goes_127 (by decide) ?_
                      exact m_zret (b := r_goes a b) X hr hlk hw hS (Nat.zero_le _) (Nat.zero_le _) (by clear hb hx hl hS hw hnm hlk hr X; first | rfl | (simp_all [bI, r_goes]; done) | (simp_all [bI, r_goes]; rfl)) (⟨rfl, rfl, rfl⟩) dX10_goes_131
              · skip
                have c_68 := bI_t c_68
                refine lv_iload_n hx hb dX10_goes_73 rfl (lv_at hl 1 rfl) ?_
                refine m_calli (m_runS (As := [.int b]) (rest := []) X (k_X10_isObject Γ l L (M) b) s_X10_isObject ml_X10_95 hw hS rfl hl.1 ⟨Nat.le_of_ble_eq_true rfl, Nat.le_of_ble_eq_true rfl⟩ (Nat.le_of_ble_eq_true rfl) ⟨Nat.le_of_ble_eq_true rfl, Nat.le_of_ble_eq_true rfl⟩ dX10_goes_74) hS (fun r_79 L1 M1 H locs hp_78 hw hS => ?_)
                obtain ⟨rfl, e1, e2⟩ := hp_78
                rw [e1, e2] at hw; clear e1 e2
                refine lv_if_eq (tgt := 98) hx hb dX10_goes_77 (by decide) (fun c_80 => ?_) (fun c_80 => ?_)
                · skip
                  have c_80 := bI_f c_80
                  refine lv_iload_n hx hb dX10_goes_98 rfl (lv_at hl 0 rfl) ?_
                  refine m_calli (m_runS (As := [.int a]) (rest := []) X (k_X10_isRow Γ l L (M) a) s_X10_isRow ml_X10_99 hw hS rfl hl.1 ⟨Nat.le_of_ble_eq_true rfl, Nat.le_of_ble_eq_true rfl⟩ (Nat.le_of_ble_eq_true rfl) ⟨Nat.le_of_ble_eq_true rfl, Nat.le_of_ble_eq_true rfl⟩ dX10_goes_99) hS (fun r_82 L1 M1 H locs hp_81 hw hS => ?_)
                  obtain ⟨rfl, e1, e2⟩ := hp_81
                  rw [e1, e2] at hw; clear e1 e2
                  refine lv_if_eq (tgt := 130) hx hb dX10_goes_102 (by decide) (fun c_83 => ?_) (fun c_83 => ?_)
                  · skip
                    have c_83 := bI_f c_83
                    refine lv_iconst (v := 0) hx hb dX10_goes_130 (by decide) ?_
                    exact m_zret (b := r_goes a b) X hr hlk hw hS (Nat.zero_le _) (Nat.zero_le _) (by clear hb hx hl hS hw hnm hlk hr X; first | rfl | (simp_all [bI, r_goes]; done) | (simp_all [bI, r_goes]; rfl)) (⟨rfl, rfl, rfl⟩) dX10_goes_131
                  · skip
                    have c_83 := bI_t c_83
                    refine lv_iload_n hx hb dX10_goes_105 rfl (lv_at hl 1 rfl) ?_
                    refine m_calli (m_runS (As := [.int b]) (rest := []) X (k_X10_isRow Γ l L (M) b) s_X10_isRow ml_X10_99 hw hS rfl hl.1 ⟨Nat.le_of_ble_eq_true rfl, Nat.le_of_ble_eq_true rfl⟩ (Nat.le_of_ble_eq_true rfl) ⟨Nat.le_of_ble_eq_true rfl, Nat.le_of_ble_eq_true rfl⟩ dX10_goes_106) hS (fun r_85 L1 M1 H locs hp_84 hw hS => ?_)
                    obtain ⟨rfl, e1, e2⟩ := hp_84
                    rw [e1, e2] at hw; clear e1 e2
                    refine lv_if_eq (tgt := 130) hx hb dX10_goes_109 (by decide) (fun c_86 => ?_) (fun c_86 => ?_)
                    · skip
                      have c_86 := bI_f c_86
                      refine lv_iconst (v := 0) hx hb dX10_goes_130 (by decide) ?_
                      exact m_zret (b := r_goes a b) X hr hlk hw hS (Nat.zero_le _) (Nat.zero_le _) (by clear hb hx hl hS hw hnm hlk hr X; first | rfl | (simp_all [bI, r_goes]; done) | (simp_all [bI, r_goes]; rfl)) (⟨rfl, rfl, rfl⟩) dX10_goes_131
                    · skip
                      have c_86 := bI_t c_86
                      refine lv_iload_n hx hb dX10_goes_112 rfl (lv_at hl 0 rfl) ?_
                      refine lv_bipush (v := 20) hx hb dX10_goes_113 (by decide) ?_
                      refine lv_isub hx hb dX10_goes_115 ?_
                      refine lv_iload_n hx hb dX10_goes_116 rfl (lv_at hl 1 rfl) ?_
                      refine lv_bipush (v := 20) hx hb dX10_goes_117 (by decide) ?_
                      refine lv_isub hx hb dX10_goes_119 ?_
                      refine m_calli (m_runS (As := [.int (a - 20), .int (b - 20)]) (rest := []) X (k_X10_isUnder Γ l L (M) (a - 20) (b - 20)) s_X10_isUnder ml_X10_111 hw hS rfl hl.1 ⟨Nat.le_of_ble_eq_true rfl, Nat.le_of_ble_eq_true rfl⟩ (Nat.le_of_ble_eq_true rfl) ⟨Nat.le_of_ble_eq_true rfl, Nat.le_of_ble_eq_true rfl⟩ dX10_goes_120) hS (fun r_88 L1 M1 H locs hp_87 hw hS => ?_)
                      obtain ⟨rfl, e1, e2⟩ := hp_87
                      rw [e1, e2] at hw; clear e1 e2
                      refine lv_if_eq (tgt := 130) hx hb dX10_goes_123 (by decide) (fun c_89 => ?_) (fun c_89 => ?_)
                      · skip
                        have c_89 := bI_f c_89
                        refine lv_iconst (v := 0) hx hb dX10_goes_130 (by decide) ?_
                        exact m_zret (b := r_goes a b) X hr hlk hw hS (Nat.zero_le _) (Nat.zero_le _) (by clear hb hx hl hS hw hnm hlk hr X; first | rfl | (simp_all [bI, r_goes]; done) | (simp_all [bI, r_goes]; rfl)) (⟨rfl, rfl, rfl⟩) dX10_goes_131
                      · skip
                        have c_89 := bI_t c_89
                        refine lv_iconst (v := 1) hx hb dX10_goes_126 (by decide) ?_
                        refine lv_goto (tgt := 131) hx hb dX10_goes_127 (by decide) ?_
                        exact m_zret (b := r_goes a b) X hr hlk hw hS (Nat.zero_le _) (Nat.zero_le _) (by clear hb hx hl hS hw hnm hlk hr X; first | rfl | (simp_all [bI, r_goes]; done) | (simp_all [bI, r_goes]; rfl)) (⟨rfl, rfl, rfl⟩) dX10_goes_131
                · skip
                  have c_80 := bI_t c_80
                  refine lv_iload_n hx hb dX10_goes_80 rfl (lv_at hl 1 rfl) ?_
                  refine lv_bipush (v := 10) hx hb dX10_goes_81 (by decide) ?_
                  refine lv_icmp_eq (tgt := 92) hx hb dX10_goes_83 (by decide) (fun c_90 => ?_) (fun c_90 => ?_)
                  · skip
                    refine lv_iconst (v := 1) hx hb dX10_goes_92 (by decide) ?_
                    refine lv_goto (tgt := 97) hx hb dX10_goes_93 (by decide) ?_
                    exact m_zret (b := r_goes a b) X hr hlk hw hS (Nat.zero_le _) (Nat.zero_le _) (by clear hb hx hl hS hw hnm hlk hr X; first | rfl | (simp_all [bI, r_goes]; done) | (simp_all [bI, r_goes]; rfl)) (⟨rfl, rfl, rfl⟩) dX10_goes_97
                  · skip
                    refine lv_iload_n hx hb dX10_goes_86 rfl (lv_at hl 1 rfl) ?_
                    refine lv_bipush (v := 15) hx hb dX10_goes_87 (by decide) ?_
                    refine lv_icmp_le (tgt := 96) hx hb dX10_goes_89 (by decide) (fun c_91 => ?_) (fun c_91 => ?_)
                    · skip
                      refine lv_iconst (v := 0) hx hb dX10_goes_96 (by decide) ?_
                      exact m_zret (b := r_goes a b) X hr hlk hw hS (Nat.zero_le _) (Nat.zero_le _) (by clear hb hx hl hS hw hnm hlk hr X; first | rfl | (simp_all [bI, r_goes]; done) | (simp_all [bI, r_goes]; rfl)) (⟨rfl, rfl, rfl⟩) dX10_goes_97
                    · skip
                      refine lv_iconst (v := 1) hx hb dX10_goes_92 (by decide) ?_
                      refine lv_goto (tgt := 97) hx hb dX10_goes_93 (by decide) ?_
                      exact m_zret (b := r_goes a b) X hr hlk hw hS (Nat.zero_le _) (Nat.zero_le _) (by clear hb hx hl hS hw hnm hlk hr X; first | rfl | (simp_all [bI, r_goes]; done) | (simp_all [bI, r_goes]; rfl)) (⟨rfl, rfl, rfl⟩) dX10_goes_97
          · skip
            have c_50 := bI_t c_50
            refine lv_iload_n hx hb dX10_goes_35 rfl (lv_at hl 1 rfl) ?_
            refine lv_bipush (v := 15) hx hb dX10_goes_36 (by decide) ?_
            refine lv_icmp_gt (tgt := 55) hx hb dX10_goes_38 (by decide) (fun c_92 => ?_) (fun c_92 => ?_)
            · skip
              refine lv_iconst (v := 1) hx hb dX10_goes_55 (by decide) ?_
              refine lv_goto (tgt := 60) hx hb dX10_goes_56 (by decide) ?_
              exact m_zret (b := r_goes a b) X hr hlk hw hS (Nat.zero_le _) (Nat.zero_le _) (by clear hb hx hl hS hw hnm hlk hr X; first | rfl | (simp_all [bI, r_goes]; done) | (simp_all [bI, r_goes]; rfl)) (⟨rfl, rfl, rfl⟩) dX10_goes_60
            · skip
              refine lv_iload_n hx hb dX10_goes_41 rfl (lv_at hl 0 rfl) ?_
              refine lv_bipush (v := 10) hx hb dX10_goes_42 (by decide) ?_
              refine lv_isub hx hb dX10_goes_44 ?_
              refine lv_iload_n hx hb dX10_goes_45 rfl (lv_at hl 1 rfl) ?_
              refine lv_bipush (v := 10) hx hb dX10_goes_46 (by decide) ?_
              refine lv_isub hx hb dX10_goes_48 ?_
              refine m_calli (m_runS (As := [.int (a - 10), .int (b - 10)]) (rest := []) X (k_X10_isUnder Γ l L (M) (a - 10) (b - 10)) s_X10_isUnder ml_X10_111 hw hS rfl hl.1 ⟨Nat.le_of_ble_eq_true rfl, Nat.le_of_ble_eq_true rfl⟩ (Nat.le_of_ble_eq_true rfl) ⟨Nat.le_of_ble_eq_true rfl, Nat.le_of_ble_eq_true rfl⟩ dX10_goes_49) hS (fun r_94 L1 M1 H locs hp_93 hw hS => ?_)
              obtain ⟨rfl, e1, e2⟩ := hp_93
              rw [e1, e2] at hw; clear e1 e2
              refine lv_if_eq (tgt := 59) hx hb dX10_goes_52 (by decide) (fun c_95 => ?_) (fun c_95 => ?_)
              · skip
                have c_95 := bI_f c_95
                refine lv_iconst (v := 0) hx hb dX10_goes_59 (by decide) ?_
                exact m_zret (b := r_goes a b) X hr hlk hw hS (Nat.zero_le _) (Nat.zero_le _) (by clear hb hx hl hS hw hnm hlk hr X; first | rfl | (simp_all [bI, r_goes]; done) | (simp_all [bI, r_goes]; rfl)) (⟨rfl, rfl, rfl⟩) dX10_goes_60
              · skip
                have c_95 := bI_t c_95
                refine lv_iconst (v := 1) hx hb dX10_goes_55 (by decide) ?_
                refine lv_goto (tgt := 60) hx hb dX10_goes_56 (by decide) ?_
                exact m_zret (b := r_goes a b) X hr hlk hw hS (Nat.zero_le _) (Nat.zero_le _) (by clear hb hx hl hS hw hnm hlk hr X; first | rfl | (simp_all [bI, r_goes]; done) | (simp_all [bI, r_goes]; rfl)) (⟨rfl, rfl, rfl⟩) dX10_goes_60
      · skip
        refine lv_iload_n hx hb dX10_goes_16 rfl (lv_at hl 1 rfl) ?_
        refine m_calli (m_runS (As := [.int b]) (rest := []) X (k_X10_isThing Γ l L (M) b) s_X10_isThing ml_X10_108 hw hS rfl hl.1 ⟨Nat.le_of_ble_eq_true rfl, Nat.le_of_ble_eq_true rfl⟩ (Nat.le_of_ble_eq_true rfl) ⟨Nat.le_of_ble_eq_true rfl, Nat.le_of_ble_eq_true rfl⟩ dX10_goes_17) hS (fun r_97 L1 M1 H locs hp_96 hw hS => ?_)
        obtain ⟨rfl, e1, e2⟩ := hp_96
        rw [e1, e2] at hw; clear e1 e2
        exact m_zret (b := r_goes a b) X hr hlk hw hS (Nat.zero_le _) (Nat.zero_le _) (by clear hb hx hl hS hw hnm hlk hr X; first | rfl | (simp_all [bI, r_goes]; done) | (simp_all [bI, r_goes]; rfl)) (⟨rfl, rfl, rfl⟩) dX10_goes_20
    · skip
      refine lv_iconst (v := 1) hx hb dX10_goes_9 (by decide) ?_
      exact m_zret (b := r_goes a b) X hr hlk hw hS (Nat.zero_le _) (Nat.zero_le _) (by clear hb hx hl hS hw hnm hlk hr X; first | rfl | (simp_all [bI, r_goes]; done) | (simp_all [bI, r_goes]; rfl)) (⟨rfl, rfl, rfl⟩) dX10_goes_10
theorem s_X10_common : mSm yX10_common cX10_common 3 (some .int) 2 := ⟨cd_X10_common, st_X10_common, ini_X10, by decide, by decide, by decide +kernel⟩
set_option maxHeartbeats 4000000 in
set_option maxRecDepth 100000 in
theorem k_X10_common (Γ : mG) (l : Launch) (L : mI → Nat) (M : mM) (a : Int32) (b : Int32) : mMet Γ l yX10_common cX10_common 3 (some .int) { frames := 2, cells := 0, slots := 0, locals := 42 } [.int a, .int b] L M (mQi Γ (fun r L1 M1 => r = r_common a b ∧ L1 = L ∧ M1 = M)) := by
  refine m_start (by decide) (Nat.le_of_ble_eq_true rfl) ?_
  intro p e s m args below meth c A ls X hr hlk hnm hw hS hl
  have hx := X.1.1
  have hb := X.1.2.1
  have hl : lv_has ls 3 [(0, .int a), (1, .int b)] := hl
  have KL : ∀ (n : Nat) (z : Int32) (H : Heap) (locs : List Loc) (ls : Array Slot), r_rk2 z ≤ n → r_common a b = r_com n z b → mW Γ.1 vwCl A L M H → va_S A s.heap H locs → lv_has ls 3 [(2, .int z), (0, .int a), (1, .int b)] → W p l e { frames := 2, cells := 0, slots := 0, locals := 42 } s m args below meth c H locs 0 0 (MQ below (mQi Γ (fun r L1 M1 => r = r_common a b ∧ L1 = L ∧ M1 = M) A) args s 0 0 A) (F0 m 11 ls []) := by
    intro n
    induction n with
    | zero =>
      intro z H locs ls hn he hw hS hl
      refine lv_iload_n hx hb dX10_common_11 rfl (lv_at hl 2 rfl) ?_
      refine lv_iload_n hx hb dX10_common_12 rfl (lv_at hl 0 rfl) ?_
      refine m_calli (m_runS (As := [.int b, .int z]) (rest := []) X (k_X10_isUnder Γ l L (M) b z) s_X10_isUnder ml_X10_111 hw hS rfl hl.1 ⟨Nat.le_of_ble_eq_true rfl, Nat.le_of_ble_eq_true rfl⟩ (Nat.le_of_ble_eq_true rfl) ⟨Nat.le_of_ble_eq_true rfl, Nat.le_of_ble_eq_true rfl⟩ dX10_common_13) hS (fun r_2 L1 M1 H locs hp_1 hw hS => ?_)
      obtain ⟨rfl, e1, e2⟩ := hp_1
      rw [e1, e2] at hw; clear e1 e2
      refine lv_if_ne (tgt := 27) hx hb dX10_common_16 (by decide) (fun c_3 => ?_) (fun c_3 => ?_)
      · skip
        have c_3 := bI_t c_3
        refine lv_iload_n hx hb dX10_common_27 rfl (lv_at hl 0 rfl) ?_
        exact m_iret X hr hlk hw hS (Nat.zero_le _) (Nat.zero_le _) (⟨by rw [he]; clear he hb hx hl hS hw hnm hlk hr X; first | rfl | (simp_all [bI, r_com]; done) | (simp_all [bI, r_com]; rfl), rfl, rfl⟩) dX10_common_28
      · skip
        have c_3 := bI_f c_3
        refine lv_iload_n hx hb dX10_common_19 rfl (lv_at hl 0 rfl) ?_
        refine m_calli (m_runS (As := [.int z]) (rest := []) X (k_X10_above Γ l L (M) z) s_X10_above ml_X10_83 hw hS rfl hl.1 ⟨Nat.le_of_ble_eq_true rfl, Nat.le_of_ble_eq_true rfl⟩ (Nat.le_of_ble_eq_true rfl) ⟨Nat.le_of_ble_eq_true rfl, Nat.le_of_ble_eq_true rfl⟩ dX10_common_20) hS (fun r_5 L1 M1 H locs hp_4 hw hS => ?_)
        obtain ⟨rfl, e1, e2⟩ := hp_4
        rw [e1, e2] at hw; clear e1 e2
        refine lv_istore_n (lv' := [(2, .int (r_above z)), (0, .int a), (1, .int b)]) hx hb dX10_common_23 rfl hl (by decide) rfl (fun ls hl => ?_)
        refine lv_goto (tgt := 11) hx hb dX10_common_24 (by decide) ?_
        exact absurd c_3 (by rw [r_rk2_0 hn]; simp [r_under])
    | succ n ih =>
      intro z H locs ls hn he hw hS hl
      refine lv_iload_n hx hb dX10_common_11 rfl (lv_at hl 2 rfl) ?_
      refine lv_iload_n hx hb dX10_common_12 rfl (lv_at hl 0 rfl) ?_
      refine m_calli (m_runS (As := [.int b, .int z]) (rest := []) X (k_X10_isUnder Γ l L (M) b z) s_X10_isUnder ml_X10_111 hw hS rfl hl.1 ⟨Nat.le_of_ble_eq_true rfl, Nat.le_of_ble_eq_true rfl⟩ (Nat.le_of_ble_eq_true rfl) ⟨Nat.le_of_ble_eq_true rfl, Nat.le_of_ble_eq_true rfl⟩ dX10_common_13) hS (fun r_7 L1 M1 H locs hp_6 hw hS => ?_)
      obtain ⟨rfl, e1, e2⟩ := hp_6
      rw [e1, e2] at hw; clear e1 e2
      refine lv_if_ne (tgt := 27) hx hb dX10_common_16 (by decide) (fun c_8 => ?_) (fun c_8 => ?_)
      · skip
        have c_8 := bI_t c_8
        refine lv_iload_n hx hb dX10_common_27 rfl (lv_at hl 0 rfl) ?_
        exact m_iret X hr hlk hw hS (Nat.zero_le _) (Nat.zero_le _) (⟨by rw [he]; clear he hb hx hl hS hw hnm hlk hr X; first | rfl | (simp_all [bI, r_com]; done) | (simp_all [bI, r_com]; rfl), rfl, rfl⟩) dX10_common_28
      · skip
        have c_8 := bI_f c_8
        refine lv_iload_n hx hb dX10_common_19 rfl (lv_at hl 0 rfl) ?_
        refine m_calli (m_runS (As := [.int z]) (rest := []) X (k_X10_above Γ l L (M) z) s_X10_above ml_X10_83 hw hS rfl hl.1 ⟨Nat.le_of_ble_eq_true rfl, Nat.le_of_ble_eq_true rfl⟩ (Nat.le_of_ble_eq_true rfl) ⟨Nat.le_of_ble_eq_true rfl, Nat.le_of_ble_eq_true rfl⟩ dX10_common_20) hS (fun r_10 L1 M1 H locs hp_9 hw hS => ?_)
        obtain ⟨rfl, e1, e2⟩ := hp_9
        rw [e1, e2] at hw; clear e1 e2
        refine lv_istore_n (lv' := [(2, .int (r_above z)), (0, .int a), (1, .int b)]) hx hb dX10_common_23 rfl hl (by decide) rfl (fun ls hl => ?_)
        refine lv_goto (tgt := 11) hx hb dX10_common_24 (by decide) ?_
        exact ih _ H locs ls (r_rk2_dn c_8 hn) (by rw [he]; clear hb hx hl hS hw hnm hlk hr X he ih; simp_all [r_com]) hw hS hl
  refine lv_iload_n hx hb dX10_common_0 rfl (lv_at hl 0 rfl) ?_
  refine lv_iconst (v := 5) hx hb dX10_common_1 (by decide) ?_
  refine lv_icmp_le (tgt := 9) hx hb dX10_common_2 (by decide) (fun c_11 => ?_) (fun c_11 => ?_)
  · skip
    refine lv_iload_n hx hb dX10_common_9 rfl (lv_at hl 0 rfl) ?_
    refine lv_istore_n (lv' := [(2, .int a), (0, .int a), (1, .int b)]) hx hb dX10_common_10 rfl hl (by decide) rfl (fun ls hl => ?_)
    exact KL 5 _ _ _ ls (by first | exact r_rk2_5 c_11 | exact Nat.zero_le _) (by first | (simp [r_common, Int32.not_lt.mpr c_11]; done) | (simp [r_common, Int32.not_le.mp c_11]; done)) hw hS hl
  · skip
    refine lv_iconst (v := 0) hx hb dX10_common_5 (by decide) ?_
    refine lv_goto (tgt := 10) hx hb dX10_common_6 (by decide) ?_
    refine lv_istore_n (lv' := [(2, .int 0), (0, .int a), (1, .int b)]) hx hb dX10_common_10 rfl hl (by decide) rfl (fun ls hl => ?_)
    exact KL 5 _ _ _ ls (by first | exact r_rk2_5 c_11 | exact Nat.zero_le _) (by first | (simp [r_common, Int32.not_lt.mpr c_11]; done) | (simp [r_common, Int32.not_le.mp c_11]; done)) hw hS hl
theorem s_X10_isOnePlace : mSm yX10_isOnePlace cX10_isOnePlace 1 (some .boolean) 1 := ⟨cd_X10_isOnePlace, st_X10_isOnePlace, ini_X10, by decide, by decide, by decide +kernel⟩
set_option maxHeartbeats 4000000 in
set_option maxRecDepth 100000 in
theorem k_X10_isOnePlace (Γ : mG) (l : Launch) (L : mI → Nat) (M : mM) (a : Int32) : mMet Γ l yX10_isOnePlace cX10_isOnePlace 1 (some .boolean) { frames := 0, cells := 0, slots := 0, locals := 0 } [.int a] L M (mQi Γ (fun r L1 M1 => r = bI (r_one a) ∧ L1 = L ∧ M1 = M)) := by
  refine m_start (by decide) (Nat.le_of_ble_eq_true rfl) ?_
  intro p e s m args below meth c A ls X hr hlk hnm hw hS hl
  have hx := X.1.1
  have hb := X.1.2.1
  have hl : lv_has ls 1 [(0, .int a)] := hl
  refine lv_iload_n hx hb dX10_isOnePlace_0 rfl (lv_at hl 0 rfl) ?_
  refine lv_iconst (v := 1) hx hb dX10_isOnePlace_1 (by decide) ?_
  refine lv_icmp_eq (tgt := 10) hx hb dX10_isOnePlace_2 (by decide) (fun c_1 => ?_) (fun c_1 => ?_)
  · skip
    refine lv_iconst (v := 1) hx hb dX10_isOnePlace_10 (by decide) ?_
    refine lv_goto (tgt := 15) hx hb dX10_isOnePlace_11 (by decide) ?_
    exact m_zret (b := r_one a) X hr hlk hw hS (Nat.zero_le _) (Nat.zero_le _) (by clear hb hx hl hS hw hnm hlk hr X; first | rfl | (simp_all [bI, r_one]; done) | (simp_all [bI, r_one]; rfl)) (⟨rfl, rfl, rfl⟩) dX10_isOnePlace_15
  · skip
    refine lv_iload_n hx hb dX10_isOnePlace_5 rfl (lv_at hl 0 rfl) ?_
    refine lv_iconst (v := 4) hx hb dX10_isOnePlace_6 (by decide) ?_
    refine lv_icmp_lt (tgt := 14) hx hb dX10_isOnePlace_7 (by decide) (fun c_2 => ?_) (fun c_2 => ?_)
    · skip
      refine lv_iconst (v := 0) hx hb dX10_isOnePlace_14 (by decide) ?_
      exact m_zret (b := r_one a) X hr hlk hw hS (Nat.zero_le _) (Nat.zero_le _) (by clear hb hx hl hS hw hnm hlk hr X; first | rfl | (simp_all [bI, r_one]; done) | (simp_all [bI, r_one]; rfl)) (⟨rfl, rfl, rfl⟩) dX10_isOnePlace_15
    · skip
      refine lv_iconst (v := 1) hx hb dX10_isOnePlace_10 (by decide) ?_
      refine lv_goto (tgt := 15) hx hb dX10_isOnePlace_11 (by decide) ?_
      exact m_zret (b := r_one a) X hr hlk hw hS (Nat.zero_le _) (Nat.zero_le _) (by clear hb hx hl hS hw hnm hlk hr X; first | rfl | (simp_all [bI, r_one]; done) | (simp_all [bI, r_one]; rfl)) (⟨rfl, rfl, rfl⟩) dX10_isOnePlace_15
theorem s_X10_joined : mSm yX10_joined cX10_joined 2 (some .int) 2 := ⟨cd_X10_joined, st_X10_joined, ini_X10, by decide, by decide, by decide +kernel⟩
set_option maxHeartbeats 4000000 in
set_option maxRecDepth 100000 in
theorem k_X10_joined (Γ : mG) (l : Launch) (L : mI → Nat) (M : mM) (a : Int32) (b : Int32) : mMet Γ l yX10_joined cX10_joined 2 (some .int) { frames := 3, cells := 0, slots := 0, locals := 65 } [.int a, .int b] L M (mQi Γ (fun r L1 M1 => r = r_joined a b ∧ L1 = L ∧ M1 = M)) := by
  refine m_start (by decide) (Nat.le_of_ble_eq_true rfl) ?_
  intro p e s m args below meth c A ls X hr hlk hnm hw hS hl
  have hx := X.1.1
  have hb := X.1.2.1
  have hl : lv_has ls 2 [(0, .int a), (1, .int b)] := hl
  have K93 : ∀ (H : Heap) (locs : List Loc) (ls : Array Slot), r_joined a b = r_join3 a b → mW Γ.1 vwCl A L M H → va_S A s.heap H locs → lv_has ls 2 [(0, .int a), (1, .int b)] → W p l e { frames := 3, cells := 0, slots := 0, locals := 65 } s m args below meth c H locs 0 0 (MQ below (mQi Γ (fun r L1 M1 => r = r_joined a b ∧ L1 = L ∧ M1 = M) A) args s 0 0 A) (F0 m 93 ls []) := by
    intro H locs ls he hw hS hl
    refine lv_iload_n hx hb dX10_joined_93 rfl (lv_at hl 0 rfl) ?_
    refine m_calli (m_runS (As := [.int a]) (rest := []) X (k_X10_isThing Γ l L (M) a) s_X10_isThing ml_X10_108 hw hS rfl hl.1 ⟨Nat.le_of_ble_eq_true rfl, Nat.le_of_ble_eq_true rfl⟩ (Nat.le_of_ble_eq_true rfl) ⟨Nat.le_of_ble_eq_true rfl, Nat.le_of_ble_eq_true rfl⟩ dX10_joined_94) hS (fun r_2 L1 M1 H locs hp_1 hw hS => ?_)
    obtain ⟨rfl, e1, e2⟩ := hp_1
    rw [e1, e2] at hw; clear e1 e2
    refine lv_if_eq (tgt := 112) hx hb dX10_joined_97 (by decide) (fun c_3 => ?_) (fun c_3 => ?_)
    · skip
      have c_3 := bI_f c_3
      refine lv_iconst (v := 0) hx hb dX10_joined_112 (by decide) ?_
      exact m_iret X hr hlk hw hS (Nat.zero_le _) (Nat.zero_le _) (⟨by rw [he]; clear he  hb hx hl hS hw hnm hlk hr X; first | rfl | (simp_all [bI, r_join3]; done) | (simp_all [bI, r_join3]; rfl), rfl, rfl⟩) dX10_joined_113
    · skip
      have c_3 := bI_t c_3
      refine lv_iload_n hx hb dX10_joined_100 rfl (lv_at hl 1 rfl) ?_
      refine m_calli (m_runS (As := [.int b]) (rest := []) X (k_X10_isThing Γ l L (M) b) s_X10_isThing ml_X10_108 hw hS rfl hl.1 ⟨Nat.le_of_ble_eq_true rfl, Nat.le_of_ble_eq_true rfl⟩ (Nat.le_of_ble_eq_true rfl) ⟨Nat.le_of_ble_eq_true rfl, Nat.le_of_ble_eq_true rfl⟩ dX10_joined_101) hS (fun r_5 L1 M1 H locs hp_4 hw hS => ?_)
      obtain ⟨rfl, e1, e2⟩ := hp_4
      rw [e1, e2] at hw; clear e1 e2
      refine lv_if_eq (tgt := 112) hx hb dX10_joined_104 (by decide) (fun c_6 => ?_) (fun c_6 => ?_)
      · skip
        have c_6 := bI_f c_6
        refine lv_iconst (v := 0) hx hb dX10_joined_112 (by decide) ?_
        exact m_iret X hr hlk hw hS (Nat.zero_le _) (Nat.zero_le _) (⟨by rw [he]; clear he  hb hx hl hS hw hnm hlk hr X; first | rfl | (simp_all [bI, r_join3]; done) | (simp_all [bI, r_join3]; rfl), rfl, rfl⟩) dX10_joined_113
      · skip
        have c_6 := bI_t c_6
        refine lv_bipush (v := 10) hx hb dX10_joined_107 (by decide) ?_
        refine lv_goto (tgt := 113) hx hb dX10_joined_109 (by decide) ?_
        exact m_iret X hr hlk hw hS (Nat.zero_le _) (Nat.zero_le _) (⟨by rw [he]; clear he  hb hx hl hS hw hnm hlk hr X; first | rfl | (simp_all [bI, r_join3]; done) | (simp_all [bI, r_join3]; rfl), rfl, rfl⟩) dX10_joined_113
  have K64 : ∀ (H : Heap) (locs : List Loc) (ls : Array Slot), r_joined a b = r_join2 a b → mW Γ.1 vwCl A L M H → va_S A s.heap H locs → lv_has ls 2 [(0, .int a), (1, .int b)] → W p l e { frames := 3, cells := 0, slots := 0, locals := 65 } s m args below meth c H locs 0 0 (MQ below (mQi Γ (fun r L1 M1 => r = r_joined a b ∧ L1 = L ∧ M1 = M) A) args s 0 0 A) (F0 m 64 ls []) := by
    intro H locs ls he hw hS hl
    refine lv_iload_n hx hb dX10_joined_64 rfl (lv_at hl 0 rfl) ?_
    refine m_calli (m_runS (As := [.int a]) (rest := []) X (k_X10_isRow Γ l L (M) a) s_X10_isRow ml_X10_99 hw hS rfl hl.1 ⟨Nat.le_of_ble_eq_true rfl, Nat.le_of_ble_eq_true rfl⟩ (Nat.le_of_ble_eq_true rfl) ⟨Nat.le_of_ble_eq_true rfl, Nat.le_of_ble_eq_true rfl⟩ dX10_joined_65) hS (fun r_8 L1 M1 H locs hp_7 hw hS => ?_)
    obtain ⟨rfl, e1, e2⟩ := hp_7
    rw [e1, e2] at hw; clear e1 e2
    refine lv_if_eq (tgt := 93) hx hb dX10_joined_68 (by decide) (fun c_9 => ?_) (fun c_9 => ?_)
    · skip
      have c_9 := bI_f c_9
      exact K93 H locs ls (by rw [he]; clear hb hx hl hS hw hnm hlk hr X he; simp_all [r_join2]) hw hS hl
    · skip
      have c_9 := bI_t c_9
      refine lv_iload_n hx hb dX10_joined_71 rfl (lv_at hl 1 rfl) ?_
      refine m_calli (m_runS (As := [.int b]) (rest := []) X (k_X10_isRow Γ l L (M) b) s_X10_isRow ml_X10_99 hw hS rfl hl.1 ⟨Nat.le_of_ble_eq_true rfl, Nat.le_of_ble_eq_true rfl⟩ (Nat.le_of_ble_eq_true rfl) ⟨Nat.le_of_ble_eq_true rfl, Nat.le_of_ble_eq_true rfl⟩ dX10_joined_72) hS (fun r_11 L1 M1 H locs hp_10 hw hS => ?_)
      obtain ⟨rfl, e1, e2⟩ := hp_10
      rw [e1, e2] at hw; clear e1 e2
      refine lv_if_eq (tgt := 93) hx hb dX10_joined_75 (by decide) (fun c_12 => ?_) (fun c_12 => ?_)
      · skip
        have c_12 := bI_f c_12
        exact K93 H locs ls (by rw [he]; clear hb hx hl hS hw hnm hlk hr X he; simp_all [r_join2]) hw hS hl
      · skip
        have c_12 := bI_t c_12
        refine lv_bipush (v := 20) hx hb dX10_joined_78 (by decide) ?_
        refine lv_iload_n hx hb dX10_joined_80 rfl (lv_at hl 0 rfl) ?_
        refine lv_bipush (v := 20) hx hb dX10_joined_81 (by decide) ?_
        refine lv_isub hx hb dX10_joined_83 ?_
        refine lv_iload_n hx hb dX10_joined_84 rfl (lv_at hl 1 rfl) ?_
        refine lv_bipush (v := 20) hx hb dX10_joined_85 (by decide) ?_
        refine lv_isub hx hb dX10_joined_87 ?_
        refine m_calli (m_runS (As := [.int (a - 20), .int (b - 20)]) (rest := [.int 20]) X (k_X10_common Γ l L (M) (a - 20) (b - 20)) s_X10_common ml_X10_115 hw hS rfl hl.1 ⟨Nat.le_of_ble_eq_true rfl, Nat.le_of_ble_eq_true rfl⟩ (Nat.le_of_ble_eq_true rfl) ⟨Nat.le_of_ble_eq_true rfl, Nat.le_of_ble_eq_true rfl⟩ dX10_joined_88) hS (fun r_14 L1 M1 H locs hp_13 hw hS => ?_)
        obtain ⟨rfl, e1, e2⟩ := hp_13
        rw [e1, e2] at hw; clear e1 e2
        refine lv_iadd hx hb dX10_joined_91 ?_
        exact m_iret X hr hlk hw hS (Nat.zero_le _) (Nat.zero_le _) (⟨by rw [he]; clear he K93 hb hx hl hS hw hnm hlk hr X; first | rfl | (simp_all [bI, r_join2]; done) | (simp_all [bI, r_join2]; rfl), rfl, rfl⟩) dX10_joined_92
  have K35 : ∀ (H : Heap) (locs : List Loc) (ls : Array Slot), r_joined a b = r_join1 a b → mW Γ.1 vwCl A L M H → va_S A s.heap H locs → lv_has ls 2 [(0, .int a), (1, .int b)] → W p l e { frames := 3, cells := 0, slots := 0, locals := 65 } s m args below meth c H locs 0 0 (MQ below (mQi Γ (fun r L1 M1 => r = r_joined a b ∧ L1 = L ∧ M1 = M) A) args s 0 0 A) (F0 m 35 ls []) := by
    intro H locs ls he hw hS hl
    refine lv_iload_n hx hb dX10_joined_35 rfl (lv_at hl 0 rfl) ?_
    refine m_calli (m_runS (As := [.int a]) (rest := []) X (k_X10_isObject Γ l L (M) a) s_X10_isObject ml_X10_95 hw hS rfl hl.1 ⟨Nat.le_of_ble_eq_true rfl, Nat.le_of_ble_eq_true rfl⟩ (Nat.le_of_ble_eq_true rfl) ⟨Nat.le_of_ble_eq_true rfl, Nat.le_of_ble_eq_true rfl⟩ dX10_joined_36) hS (fun r_16 L1 M1 H locs hp_15 hw hS => ?_)
    obtain ⟨rfl, e1, e2⟩ := hp_15
    rw [e1, e2] at hw; clear e1 e2
    refine lv_if_eq (tgt := 64) hx hb dX10_joined_39 (by decide) (fun c_17 => ?_) (fun c_17 => ?_)
    · skip
      have c_17 := bI_f c_17
      exact K64 H locs ls (by rw [he]; clear hb hx hl hS hw hnm hlk hr X he; simp_all [r_join1]) hw hS hl
    · skip
      have c_17 := bI_t c_17
      refine lv_iload_n hx hb dX10_joined_42 rfl (lv_at hl 1 rfl) ?_
      refine m_calli (m_runS (As := [.int b]) (rest := []) X (k_X10_isObject Γ l L (M) b) s_X10_isObject ml_X10_95 hw hS rfl hl.1 ⟨Nat.le_of_ble_eq_true rfl, Nat.le_of_ble_eq_true rfl⟩ (Nat.le_of_ble_eq_true rfl) ⟨Nat.le_of_ble_eq_true rfl, Nat.le_of_ble_eq_true rfl⟩ dX10_joined_43) hS (fun r_19 L1 M1 H locs hp_18 hw hS => ?_)
      obtain ⟨rfl, e1, e2⟩ := hp_18
      rw [e1, e2] at hw; clear e1 e2
      refine lv_if_eq (tgt := 64) hx hb dX10_joined_46 (by decide) (fun c_20 => ?_) (fun c_20 => ?_)
      · skip
        have c_20 := bI_f c_20
        exact K64 H locs ls (by rw [he]; clear hb hx hl hS hw hnm hlk hr X he; simp_all [r_join1]) hw hS hl
      · skip
        have c_20 := bI_t c_20
        refine lv_bipush (v := 10) hx hb dX10_joined_49 (by decide) ?_
        refine lv_iload_n hx hb dX10_joined_51 rfl (lv_at hl 0 rfl) ?_
        refine lv_bipush (v := 10) hx hb dX10_joined_52 (by decide) ?_
        refine lv_isub hx hb dX10_joined_54 ?_
        refine lv_iload_n hx hb dX10_joined_55 rfl (lv_at hl 1 rfl) ?_
        refine lv_bipush (v := 10) hx hb dX10_joined_56 (by decide) ?_
        refine lv_isub hx hb dX10_joined_58 ?_
        refine m_calli (m_runS (As := [.int (a - 10), .int (b - 10)]) (rest := [.int 10]) X (k_X10_common Γ l L (M) (a - 10) (b - 10)) s_X10_common ml_X10_115 hw hS rfl hl.1 ⟨Nat.le_of_ble_eq_true rfl, Nat.le_of_ble_eq_true rfl⟩ (Nat.le_of_ble_eq_true rfl) ⟨Nat.le_of_ble_eq_true rfl, Nat.le_of_ble_eq_true rfl⟩ dX10_joined_59) hS (fun r_22 L1 M1 H locs hp_21 hw hS => ?_)
        obtain ⟨rfl, e1, e2⟩ := hp_21
        rw [e1, e2] at hw; clear e1 e2
        refine lv_iadd hx hb dX10_joined_62 ?_
        exact m_iret X hr hlk hw hS (Nat.zero_le _) (Nat.zero_le _) (⟨by rw [he]; clear he K93 K64 hb hx hl hS hw hnm hlk hr X; first | rfl | (simp_all [bI, r_join1]; done) | (simp_all [bI, r_join1]; rfl), rfl, rfl⟩) dX10_joined_63
  refine lv_iload_n hx hb dX10_joined_0 rfl (lv_at hl 0 rfl) ?_
  refine lv_iload_n hx hb dX10_joined_1 rfl (lv_at hl 1 rfl) ?_
  refine lv_icmp_ne (tgt := 7) hx hb dX10_joined_2 (by decide) (fun c_23 => ?_) (fun c_23 => ?_)
  · skip
    refine lv_iload_n hx hb dX10_joined_7 rfl (lv_at hl 0 rfl) ?_
    refine lv_iconst (v := 4) hx hb dX10_joined_8 (by decide) ?_
    refine lv_icmp_ne (tgt := 21) hx hb dX10_joined_9 (by decide) (fun c_24 => ?_) (fun c_24 => ?_)
    · skip
      refine lv_iload_n hx hb dX10_joined_21 rfl (lv_at hl 1 rfl) ?_
      refine lv_iconst (v := 4) hx hb dX10_joined_22 (by decide) ?_
      refine lv_icmp_ne (tgt := 35) hx hb dX10_joined_23 (by decide) (fun c_25 => ?_) (fun c_25 => ?_)
      · skip
        exact K35 _ _ ls (by clear K35 K64 K93 hb hx hl hS hw hnm hlk hr X; simp_all [r_joined]) hw hS hl
      · skip
        refine lv_iload_n hx hb dX10_joined_26 rfl (lv_at hl 0 rfl) ?_
        refine m_calli (m_runS (As := [.int a]) (rest := []) X (k_X10_isThing Γ l L (M) a) s_X10_isThing ml_X10_108 hw hS rfl hl.1 ⟨Nat.le_of_ble_eq_true rfl, Nat.le_of_ble_eq_true rfl⟩ (Nat.le_of_ble_eq_true rfl) ⟨Nat.le_of_ble_eq_true rfl, Nat.le_of_ble_eq_true rfl⟩ dX10_joined_27) hS (fun r_27 L1 M1 H locs hp_26 hw hS => ?_)
        obtain ⟨rfl, e1, e2⟩ := hp_26
        rw [e1, e2] at hw; clear e1 e2
        refine lv_if_eq (tgt := 35) hx hb dX10_joined_30 (by decide) (fun c_28 => ?_) (fun c_28 => ?_)
        · skip
          have c_28 := bI_f c_28
          exact K35 _ _ ls (by clear K35 K64 K93 hb hx hl hS hw hnm hlk hr X; simp_all [r_joined]) hw hS hl
        · skip
          have c_28 := bI_t c_28
          refine lv_iload_n hx hb dX10_joined_33 rfl (lv_at hl 0 rfl) ?_
          exact m_iret X hr hlk hw hS (Nat.zero_le _) (Nat.zero_le _) (⟨by clear K35 K64 K93 hb hx hl hS hw hnm hlk hr X; first | rfl | (simp_all [bI, r_joined]; done) | (simp_all [bI, r_joined]; rfl), rfl, rfl⟩) dX10_joined_34
    · skip
      refine lv_iload_n hx hb dX10_joined_12 rfl (lv_at hl 1 rfl) ?_
      refine m_calli (m_runS (As := [.int b]) (rest := []) X (k_X10_isThing Γ l L (M) b) s_X10_isThing ml_X10_108 hw hS rfl hl.1 ⟨Nat.le_of_ble_eq_true rfl, Nat.le_of_ble_eq_true rfl⟩ (Nat.le_of_ble_eq_true rfl) ⟨Nat.le_of_ble_eq_true rfl, Nat.le_of_ble_eq_true rfl⟩ dX10_joined_13) hS (fun r_30 L1 M1 H locs hp_29 hw hS => ?_)
      obtain ⟨rfl, e1, e2⟩ := hp_29
      rw [e1, e2] at hw; clear e1 e2
      refine lv_if_eq (tgt := 21) hx hb dX10_joined_16 (by decide) (fun c_31 => ?_) (fun c_31 => ?_)
      · skip
        have c_31 := bI_f c_31
        refine lv_iload_n hx hb dX10_joined_21 rfl (lv_at hl 1 rfl) ?_
        refine lv_iconst (v := 4) hx hb dX10_joined_22 (by decide) ?_
        refine lv_icmp_ne (tgt := 35) hx hb dX10_joined_23 (by decide) (fun c_32 => ?_) (fun c_32 => ?_)
        · skip
          exact K35 _ _ ls (by clear K35 K64 K93 hb hx hl hS hw hnm hlk hr X; simp_all [r_joined]) hw hS hl
        · skip
          refine lv_iload_n hx hb dX10_joined_26 rfl (lv_at hl 0 rfl) ?_
          refine m_calli (m_runS (As := [.int a]) (rest := []) X (k_X10_isThing Γ l L (M) a) s_X10_isThing ml_X10_108 hw hS rfl hl.1 ⟨Nat.le_of_ble_eq_true rfl, Nat.le_of_ble_eq_true rfl⟩ (Nat.le_of_ble_eq_true rfl) ⟨Nat.le_of_ble_eq_true rfl, Nat.le_of_ble_eq_true rfl⟩ dX10_joined_27) hS (fun r_34 L1 M1 H locs hp_33 hw hS => ?_)
          obtain ⟨rfl, e1, e2⟩ := hp_33
          rw [e1, e2] at hw; clear e1 e2
          refine lv_if_eq (tgt := 35) hx hb dX10_joined_30 (by decide) (fun c_35 => ?_) (fun c_35 => ?_)
          · skip
            have c_35 := bI_f c_35
            exact K35 _ _ ls (by clear K35 K64 K93 hb hx hl hS hw hnm hlk hr X; simp_all [r_joined]) hw hS hl
          · skip
            have c_35 := bI_t c_35
            refine lv_iload_n hx hb dX10_joined_33 rfl (lv_at hl 0 rfl) ?_
            exact m_iret X hr hlk hw hS (Nat.zero_le _) (Nat.zero_le _) (⟨by clear K35 K64 K93 hb hx hl hS hw hnm hlk hr X; first | rfl | (simp_all [bI, r_joined]; done) | (simp_all [bI, r_joined]; rfl), rfl, rfl⟩) dX10_joined_34
      · skip
        have c_31 := bI_t c_31
        refine lv_iload_n hx hb dX10_joined_19 rfl (lv_at hl 1 rfl) ?_
        exact m_iret X hr hlk hw hS (Nat.zero_le _) (Nat.zero_le _) (⟨by clear K35 K64 K93 hb hx hl hS hw hnm hlk hr X; first | rfl | (simp_all [bI, r_joined]; done) | (simp_all [bI, r_joined]; rfl), rfl, rfl⟩) dX10_joined_20
  · skip
    refine lv_iload_n hx hb dX10_joined_5 rfl (lv_at hl 0 rfl) ?_
    exact m_iret X hr hlk hw hS (Nat.zero_le _) (Nat.zero_le _) (⟨by clear K35 K64 K93 hb hx hl hS hw hnm hlk hr X; first | rfl | (simp_all [bI, r_joined]; done) | (simp_all [bI, r_joined]; rfl), rfl, rfl⟩) dX10_joined_6
