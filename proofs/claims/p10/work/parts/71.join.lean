/-! JOINED: the reference's way through a METHOD -/
theorem ext_no {P : Nat → Prop} {a b : Nat → Prop} {t : Nat} (h : ∀ g, g < t → a g → b g → P g) (hn : a t → b t → False) : ∀ g, g < t + 1 → a g → b g → P g := by
  intro g hg ha hb
  by_cases z : g = t
  · subst z; exact (hn ha hb).elim
  · exact h g (by omega) ha hb
theorem ext_yes {P : Nat → Prop} {a b : Nat → Prop} {t : Nat} (h : ∀ g, g < t → a g → b g → P g) (hp : P t) : ∀ g, g < t + 1 → a g → b g → P g := by
  intro g hg ha hb
  by_cases z : g = t
  · subst z; exact hp
  · exact h g (by omega) ha hb
def cm1 (c : Bool) (x : RS) (om : Nat) (b : Int32) (z : PL) : Bool × RS := if c = true then r_comes x om b z else (true, x)
/-- the HANDLERS of an instruction, one behind the other -/
def hsF (om : Nat) (hf hto hat : Nat → Nat) (ii : Nat) : Nat → Nat → RS → PL → Bool × RS × PL
  | 0, _, x, q => (true, x, q)
  | n + 1, g, x, q => if hf g ≤ ii ∧ ii ≤ hto g - 1 then (if (r_comes x om (nI (hat g)) (p_ahead x q.1, 1)).1 = true then hsF om hf hto hat ii n (g + 1) (r_comes x om (nI (hat g)) (p_ahead x q.1, 1)).2 (p_ahead x q.1, 1) else (false, x, q)) else hsF om hf hto hat ii n (g + 1) x q
/-- what an instruction leaves goes on -/
def go2F (k om hn : Nat) (hf hto hat : Nat → Nat) (ii : Nat) (x : RS) (z : PL) : Bool × RS × PL := if (cm1 (!r_last (x.2.1 3 (40 * k + ii))) x om (nI ii + 1) z).1 = true then (if (cm1 (r_leads (x.2.1 3 (40 * k + ii))) (cm1 (!r_last (x.2.1 3 (40 * k + ii))) x om (nI ii + 1) z).2 om ((cm1 (!r_last (x.2.1 3 (40 * k + ii))) x om (nI ii + 1) z).2.2.2 4 (40 * k + ii)).toInt32 z).1 = true then hsF om hf hto hat ii hn 0 (cm1 (r_leads (x.2.1 3 (40 * k + ii))) (cm1 (!r_last (x.2.1 3 (40 * k + ii))) x om (nI ii + 1) z).2 om ((cm1 (!r_last (x.2.1 3 (40 * k + ii))) x om (nI ii + 1) z).2.2.2 4 (40 * k + ii)).toInt32 z).2 z else (false, x, z)) else (false, x, z)
def goF (k om hn : Nat) (hf hto hat pm : Nat → Nat) (ii e1 : Nat) (x : RS) (h : Nat → Int32) : Bool × RS × PL := match r_code x k om pm ii (p_takes x ii h, e1) with
  | none => (false, x, (h, 0))
  | some z => go2F k om hn hf hto hat ii x z
def GoE (k om hn : Nat) (hf hto hat pm : Nat → Nat) (ii e1 : Nat) (x : RS) (h : Nat → Int32) (t : Bool) (y : RS) (q : PL) : Prop := (goF k om hn hf hto hat pm ii e1 x h).1 = t ∧ (t = true → (goF k om hn hf hto hat pm ii e1 x h).2 = (y, q))
section HSr
variable {om ii n g : Nat} {hf hto hat : Nat → Nat} {x : RS} {q : PL} {b : Int32}
theorem hs_no (c : ¬ (hf g ≤ ii ∧ ii ≤ hto g - 1)) : hsF om hf hto hat ii (n + 1) g x q = hsF om hf hto hat ii n (g + 1) x q := by
  show (if _ then _ else _) = _
  rw [if_neg c]
theorem hs_yes {x1 : RS} (c : hf g ≤ ii ∧ ii ≤ hto g - 1) (e : (r_comes x om (nI (hat g)) (p_ahead x q.1, 1)).1 = true) (e2 : (r_comes x om (nI (hat g)) (p_ahead x q.1, 1)).2 = x1) : hsF om hf hto hat ii (n + 1) g x q = hsF om hf hto hat ii n (g + 1) x1 (p_ahead x q.1, 1) := by
  show (if _ then _ else _) = _
  rw [if_pos c, if_pos e, e2]
theorem hs_f (c : hf g ≤ ii ∧ ii ≤ hto g - 1) (e : (r_comes x om (nI (hat g)) (p_ahead x q.1, 1)).1 = false) : (hsF om hf hto hat ii (n + 1) g x q).1 = false := by
  show (if _ then _ else _ : Bool × RS × PL).1 = _
  rw [if_pos c, if_neg (by rw [e]; decide)]
end HSr
section Gor
variable {k om hn ii e1 : Nat} {hf hto hat pm : Nat → Nat} {x x1 x2 y : RS} {t c : Bool} {h : Nat → Int32} {z q : PL} {b : Int32}
theorem cm1_n {o : Int32} (e : r_last o = true) : cm1 (!r_last o) x om b z = (true, x) := by
  unfold cm1
  rw [e]
  rfl
theorem cm1_t {o : Int32} (e : r_last o = false) (e1 : (r_comes x om b z).1 = true) (e2 : (r_comes x om b z).2 = x1) : cm1 (!r_last o) x om b z = (true, x1) := by
  unfold cm1
  rw [e]
  show r_comes x om b z = _
  rw [← e1, ← e2]
theorem cm2_n {o : Int32} (e : r_leads o = false) : cm1 (r_leads o) x om b z = (true, x) := by
  unfold cm1
  rw [e]
  rfl
theorem cm2_t {o : Int32} (e : r_leads o = true) (e1 : (r_comes x om b z).1 = true) (e2 : (r_comes x om b z).2 = x1) : cm1 (r_leads o) x om b z = (true, x1) := by
  unfold cm1
  rw [e]
  show r_comes x om b z = _
  rw [← e1, ← e2]
theorem goF_s (e : r_code x k om pm ii (p_takes x ii h, e1) = some z) : goF k om hn hf hto hat pm ii e1 x h = go2F k om hn hf hto hat ii x z := by
  unfold goF
  rw [e]
theorem goF_n (e : r_code x k om pm ii (p_takes x ii h, e1) = none) : (goF k om hn hf hto hat pm ii e1 x h).1 = false := by
  unfold goF
  rw [e]
theorem Go_none (e : r_code x k om pm ii (p_takes x ii h, e1) = none) : GoE k om hn hf hto hat pm ii e1 x h false y q := ⟨goF_n e, fun w => by cases w⟩
theorem Go_f1 (e : r_code x k om pm ii (p_takes x ii h, e1) = some z) (hl : r_last (x.2.1 3 (40 * k + ii)) = false) (ec : (r_comes x om (nI ii + 1) z).1 = false) : GoE k om hn hf hto hat pm ii e1 x h false y q := by
  refine ⟨?_, fun w => by cases w⟩
  rw [goF_s e]
  unfold go2F
  rw [if_neg]
  unfold cm1
  rw [hl]
  show ¬ (r_comes x om (nI ii + 1) z).1 = true
  rw [ec]
  decide
theorem Go_f2 (e : r_code x k om pm ii (p_takes x ii h, e1) = some z) (h1 : cm1 (!r_last (x.2.1 3 (40 * k + ii))) x om (nI ii + 1) z = (true, x1)) (hl : r_leads (x.2.1 3 (40 * k + ii)) = true) (ec : (r_comes x1 om (x1.2.2 4 (40 * k + ii)).toInt32 z).1 = false) : GoE k om hn hf hto hat pm ii e1 x h false y q := by
  refine ⟨?_, fun w => by cases w⟩
  rw [goF_s e]
  unfold go2F
  rw [h1, if_pos rfl, if_neg]
  unfold cm1
  rw [hl]
  show ¬ (r_comes x1 om (x1.2.2 4 (40 * k + ii)).toInt32 z).1 = true
  rw [ec]
  decide
theorem Go_hs (e : r_code x k om pm ii (p_takes x ii h, e1) = some z) (h1 : cm1 (!r_last (x.2.1 3 (40 * k + ii))) x om (nI ii + 1) z = (true, x1)) (h2 : cm1 (r_leads (x.2.1 3 (40 * k + ii))) x1 om (x1.2.2 4 (40 * k + ii)).toInt32 z = (true, x2)) : goF k om hn hf hto hat pm ii e1 x h = hsF om hf hto hat ii hn 0 x2 z := by
  rw [goF_s e]
  unfold go2F
  rw [h1, if_pos rfl]
  show (if (cm1 (r_leads (x.2.1 3 (40 * k + ii))) x1 om (x1.2.2 4 (40 * k + ii)).toInt32 z).1 = true then _ else _) = _
  rw [h2, if_pos rfl]
end Gor
theorem v_X10_goesOn : mVm yX10_goesOn cX10_goesOn 7 (some .boolean) 2 := ⟨cd_X10_goesOn, im_X10_goesOn, se_X10_goesOn, ini_X10, by decide, by decide, by decide +kernel⟩
set_option maxHeartbeats 4000000 in
set_option maxRecDepth 100000 in
theorem k_X10_goesOn (Γ : mG) (l : Launch) (L : mI → Nat) (x : RS) (h : Nat → Int32) (d : Nat) (a b : Int32) (k om hn ii e1_ : Nat) (hf hto hat hwh pm : Nat → Nat) (cb : Bool) (ha : a = nI k) (hk : k < 8) (hbi : b = nI ii) (hii : ii < 40) (hR : RC x k om hn hf hto hat hwh pm) (he1 : x.2.1 11 ii = nI e1_) (he8 : e1_ ≤ 8) (hcb : x.1 16 = bI cb) (hcm : ∀ j, j < 8 → x.2.1 17 j = x.2.1 12 (16 * ii + j)) : mMet Γ l yX10_goesOn cX10_goesOn 7 (some .boolean) { frames := 7, cells := 0, slots := 0, locals := 161 } [.ref (L (.inl 0)), .int a, .int b] L (rM Γ L (sH x (h, d))) (mQi Γ (fun r L1 M1 => ∃ (t : Bool) (y : RS) (q : PL) (c1 : Bool), r = bI t ∧ L1 = L ∧ M1 = rM Γ L (sH y q) ∧ jR x y cb c1 ∧ (t = true → c1 = false → Cl x k om hn hf hto hat pm ii) ∧ GoE k om hn hf hto hat pm ii e1_ x h t y q)) := by
  refine m_start (by decide) (Nat.le_of_ble_eq_true rfl) ?_
  intro p e s m args below meth c A ls X hr hlk hnm hw hS hl
  have hx := X.1.1
  have hb := X.1.2.1
  have ho40 := hR.2.1
  have hn6 := hR.2.2.2.1
  have hj : jR x x cb cb := jR.rf hcb
  have hR0 := hR
  have hl : lv_has ls 7 [(0, .ref (L (.inl 0))), (1, .int a), (2, .int b)] := hl
  have K83 : ∀ (u t : Nat) (j : Int32) (gd : Bool) (y : RS) (h3 : Nat → Int32) (d3 : Nat) (c3 : Bool) (H : Heap) (locs : List Loc) (ls : Array Slot), t + u = hn → j = nI t → RC y k om hn hf hto hat hwh pm → jR x y cb c3 → (gd = true → c3 = false → ∃ z : PL, r_code x k om pm ii (p_takes x ii h, e1_) = some z ∧ (r_last (x.2.1 3 (40 * k + ii)) = false → fits_ x om (nI ii + 1) z) ∧ (r_leads (x.2.1 3 (40 * k + ii)) = true → fits_ x om (x.2.2 4 (40 * k + ii)).toInt32 z) ∧ (∀ g, g < t → hf g ≤ ii → ii ≤ hto g - 1 → ∃ h2 : Nat → Int32, (∀ j, j < 8 → h2 j = x.2.1 12 (16 * ii + j)) ∧ h2 8 = 1 ∧ fits_ x om (nI (hat g)) (h2, 1))) → (gd = true → goF k om hn hf hto hat pm ii e1_ x h = hsF om hf hto hat ii u t y (h3, d3)) → (gd = false → (goF k om hn hf hto hat pm ii e1_ x h).1 = false) → mW Γ.1 vwCl A L (rM Γ L (sH y (h3, d3))) H → va_S A s.heap H locs → lv_has ls 7 [(5, .int j), (4, .int (bI gd)), (0, .ref (L (.inl 0))), (1, .int a), (2, .int b)] → W p l e { frames := 7, cells := 0, slots := 0, locals := 161 } s m args below meth c H locs 0 0 (MQ below (mQi Γ (fun r L1 M1 => ∃ (t : Bool) (y : RS) (q : PL) (c1 : Bool), r = bI t ∧ L1 = L ∧ M1 = rM Γ L (sH y q) ∧ jR x y cb c1 ∧ (t = true → c1 = false → Cl x k om hn hf hto hat pm ii) ∧ GoE k om hn hf hto hat pm ii e1_ x h t y q) A) args s 0 0 A) (F0 m 83 ls []) := by
    clear hR hj hw hS hl
    clear hcb
    intro u
    induction u with
    | zero =>
      intro t j gd y h3 d3 c3 H locs ls ht hjt hR hj hgd hG hG0 hw hS hl
      have hcb := hj.2.1
      have hjc : y.2.1 17 = x.2.1 17 := hj.2.2.2.2.2.2.2.1
      refine lv_iload hx hb dX10_goesOn_83 (lv_at hl 0 rfl) ?_
      refine lv_aload_n hx hb dX10_goesOn_85 rfl (lv_at hl 2 rfl) ?_
      refine r_get5 X hw dX10_goesOn_86 ?_
      refine lv_iload_n hx hb dX10_goesOn_89 rfl (lv_at hl 3 rfl) ?_
      refine h_ald5 (n := k) X hw ha (by omega) dX10_goesOn_90 ?_
      refine lv_icmp_ge (tgt := 165) hx hb dX10_goesOn_91 (by decide) (fun c_1 => ?_) (fun c_1 => ?_)
      · skip
        have c_1n : t ≥ hn := ngeT (a := t) (b := hn) hjt hR.2.2.1 (by omega) (by omega) c_1
        have c_1m : ¬ t < hn := by omega
        refine lv_iload hx hb dX10_goesOn_165 (lv_at hl 1 rfl) ?_
        exact m_zret (b := gd) X hr hlk hw hS (Nat.zero_le _) (Nat.zero_le _) rfl ⟨gd, y, (h3, d3), c3, rfl, rfl, rfl, hj, fun w z => (by first | exact absurd w (by rw [show gd = false by assumption]; decide) | skip; obtain ⟨zz, g1, g2, g3, g4⟩ := hgd w z; exact ⟨h, e1_, zz, he8, he1, g1, g2, g3, fun g hg => g4 g (by omega)⟩), (by cases gd with | true => (first | (exact ⟨by rw [hG rfl]; rfl, fun _ => by rw [hG rfl]; rfl⟩) | (exfalso; omega) | (exfalso; simp_all; done)) | false => exact ⟨hG0 rfl, fun w9 => by cases w9⟩)⟩ dX10_goesOn_167
      · skip
        have c_1n : ¬ t ≥ hn := ngeF (a := t) (b := hn) hjt hR.2.2.1 (by omega) (by omega) c_1
        have c_1m : t < hn := by omega
        refine lv_iload hx hb dX10_goesOn_94 (lv_at hl 1 rfl) ?_
        refine lv_if_eq (tgt := 165) hx hb dX10_goesOn_96 (by decide) (fun c_2 => ?_) (fun c_2 => ?_)
        · skip
          have c_2 := bI_f c_2
          refine lv_iload hx hb dX10_goesOn_165 (lv_at hl 1 rfl) ?_
          exact m_zret (b := gd) X hr hlk hw hS (Nat.zero_le _) (Nat.zero_le _) rfl ⟨gd, y, (h3, d3), c3, rfl, rfl, rfl, hj, fun w z => (by first | exact absurd w (by rw [show gd = false by assumption]; decide) | skip; obtain ⟨zz, g1, g2, g3, g4⟩ := hgd w z; exact ⟨h, e1_, zz, he8, he1, g1, g2, g3, fun g hg => g4 g (by omega)⟩), (by cases gd with | true => (first | (exact ⟨by rw [hG rfl]; rfl, fun _ => by rw [hG rfl]; rfl⟩) | (exfalso; omega) | (exfalso; simp_all; done)) | false => exact ⟨hG0 rfl, fun w9 => by cases w9⟩)⟩ dX10_goesOn_167
        · skip
          have c_2 := bI_t c_2
          exact absurd ht (by omega)
    | succ u ih =>
      intro t j gd y h3 d3 c3 H locs ls ht hjt hR hj hgd hG hG0 hw hS hl
      have hcb := hj.2.1
      obtain ⟨q1, q2, q3, -, q5, q6, q7, -⟩ := hR.2.2.2.2.1 t (by omega)
      have hjc : y.2.1 17 = x.2.1 17 := hj.2.2.2.2.2.2.2.1
      refine lv_iload hx hb dX10_goesOn_83 (lv_at hl 0 rfl) ?_
      refine lv_aload_n hx hb dX10_goesOn_85 rfl (lv_at hl 2 rfl) ?_
      refine r_get5 X hw dX10_goesOn_86 ?_
      refine lv_iload_n hx hb dX10_goesOn_89 rfl (lv_at hl 3 rfl) ?_
      refine h_ald5 (n := k) X hw ha (by omega) dX10_goesOn_90 ?_
      refine lv_icmp_ge (tgt := 165) hx hb dX10_goesOn_91 (by decide) (fun c_3 => ?_) (fun c_3 => ?_)
      · skip
        have c_3n : t ≥ hn := ngeT (a := t) (b := hn) hjt hR.2.2.1 (by omega) (by omega) c_3
        have c_3m : ¬ t < hn := by omega
        refine lv_iload hx hb dX10_goesOn_165 (lv_at hl 1 rfl) ?_
        exact m_zret (b := gd) X hr hlk hw hS (Nat.zero_le _) (Nat.zero_le _) rfl ⟨gd, y, (h3, d3), c3, rfl, rfl, rfl, hj, fun w z => (by first | exact absurd w (by rw [show gd = false by assumption]; decide) | skip; obtain ⟨zz, g1, g2, g3, g4⟩ := hgd w z; exact ⟨h, e1_, zz, he8, he1, g1, g2, g3, fun g hg => g4 g (by omega)⟩), (by cases gd with | true => (first | (exact ⟨by rw [hG rfl]; rfl, fun _ => by rw [hG rfl]; rfl⟩) | (exfalso; omega) | (exfalso; simp_all; done)) | false => exact ⟨hG0 rfl, fun w9 => by cases w9⟩)⟩ dX10_goesOn_167
      · skip
        have c_3n : ¬ t ≥ hn := ngeF (a := t) (b := hn) hjt hR.2.2.1 (by omega) (by omega) c_3
        have c_3m : t < hn := by omega
        refine lv_iload hx hb dX10_goesOn_94 (lv_at hl 1 rfl) ?_
        refine lv_if_eq (tgt := 165) hx hb dX10_goesOn_96 (by decide) (fun c_4 => ?_) (fun c_4 => ?_)
        · skip
          have c_4 := bI_f c_4
          refine lv_iload hx hb dX10_goesOn_165 (lv_at hl 1 rfl) ?_
          exact m_zret (b := gd) X hr hlk hw hS (Nat.zero_le _) (Nat.zero_le _) rfl ⟨gd, y, (h3, d3), c3, rfl, rfl, rfl, hj, fun w z => (by first | exact absurd w (by rw [show gd = false by assumption]; decide) | skip; obtain ⟨zz, g1, g2, g3, g4⟩ := hgd w z; exact ⟨h, e1_, zz, he8, he1, g1, g2, g3, fun g hg => g4 g (by omega)⟩), (by cases gd with | true => (first | (exact ⟨by rw [hG rfl]; rfl, fun _ => by rw [hG rfl]; rfl⟩) | (exfalso; omega) | (exfalso; simp_all; done)) | false => exact ⟨hG0 rfl, fun w9 => by cases w9⟩)⟩ dX10_goesOn_167
        · skip
          have c_4 := bI_t c_4
          refine lv_iconst (v := 4) hx hb dX10_goesOn_99 (by decide) ?_
          refine lv_bipush (v := 6) hx hb dX10_goesOn_100 (by decide) ?_
          refine lv_iload_n hx hb dX10_goesOn_102 rfl (lv_at hl 3 rfl) ?_
          refine lv_imul hx hb dX10_goesOn_103 ?_
          refine lv_iload hx hb dX10_goesOn_104 (lv_at hl 0 rfl) ?_
          refine lv_iadd hx hb dX10_goesOn_106 ?_
          refine lv_imul hx hb dX10_goesOn_107 ?_
          refine lv_istore (lv' := [(6, .int (4 * ((6 * a) + j))), (5, .int j), (4, .int (bI gd)), (0, .ref (L (.inl 0))), (1, .int a), (2, .int b)]) hx hb dX10_goesOn_108 hl (by decide) rfl (fun ls hl => ?_)
          refine lv_iload_n hx hb dX10_goesOn_110 rfl (lv_at hl 5 rfl) ?_
          refine lv_i2l (v := b.toInt64) hx hb dX10_goesOn_111 rfl ?_
          refine lv_aload_n hx hb dX10_goesOn_112 rfl (lv_at hl 3 rfl) ?_
          refine r_get6 X hw dX10_goesOn_113 ?_
          refine lv_iload hx hb dX10_goesOn_116 (lv_at hl 0 rfl) ?_
          refine h_ald6 (n := 4 * ((6 * k) + t)) X hw (nmul (a := 4) (b := (6 * k) + t) rfl (nadd (a := 6 * k) (b := t) (nmul (a := 6) (b := k) rfl ha) hjt)) (by omega) dX10_goesOn_118 ?_
          refine lv_i2l (v := (y.2.1 6 (4 * ((6 * k) + t))).toInt64) hx hb dX10_goesOn_119 rfl ?_
          refine lv_aload_n hx hb dX10_goesOn_120 rfl (lv_at hl 3 rfl) ?_
          refine r_get6 X hw dX10_goesOn_121 ?_
          refine lv_iload hx hb dX10_goesOn_124 (lv_at hl 0 rfl) ?_
          refine lv_iconst (v := 1) hx hb dX10_goesOn_126 (by decide) ?_
          refine lv_iadd hx hb dX10_goesOn_127 ?_
          refine h_ald6 (n := (4 * ((6 * k) + t)) + 1) X hw (nadd (a := 4 * ((6 * k) + t)) (b := 1) (nmul (a := 4) (b := (6 * k) + t) rfl (nadd (a := 6 * k) (b := t) (nmul (a := 6) (b := k) rfl ha) hjt)) rfl) (by omega) dX10_goesOn_128 ?_
          refine lv_iconst (v := 1) hx hb dX10_goesOn_129 (by decide) ?_
          refine lv_isub hx hb dX10_goesOn_130 ?_
          refine lv_i2l (v := ((y.2.1 6 ((4 * ((6 * k) + t)) + 1)) - 1).toInt64) hx hb dX10_goesOn_131 rfl ?_
          refine m_calli (m_runS (As := [.long b.toInt64, .long ((y.2.1 6 (4 * ((6 * k) + t))).toInt64), .long (((y.2.1 6 ((4 * ((6 * k) + t)) + 1)) - 1).toInt64)]) (rest := []) X (k_X10_isIn Γ l L (rM Γ L (sH y (h3, d3))) b.toInt64 ((y.2.1 6 (4 * ((6 * k) + t))).toInt64) (((y.2.1 6 ((4 * ((6 * k) + t)) + 1)) - 1).toInt64) ) s_X10_isIn ml_X10_79 hw hS rfl hl.1 ⟨Nat.le_of_ble_eq_true rfl, Nat.le_of_ble_eq_true rfl⟩ (Nat.le_of_ble_eq_true rfl) ⟨Nat.le_of_ble_eq_true rfl, Nat.le_of_ble_eq_true rfl⟩ dX10_goesOn_132) hS (fun r_6 L1 M1 H locs hp_5 hw hS => ?_)
          obtain ⟨rfl, e1, e2⟩ := hp_5
          rw [e1, e2] at hw; clear e1 e2
          refine lv_if_eq (tgt := 159) hx hb dX10_goesOn_135 (by decide) (fun c_7 => ?_) (fun c_7 => ?_)
          · skip
            have c_7 := bI_f c_7
            have c_7 := (isInN (a := b) (b := (y.2.1 6 (4 * ((6 * k) + t)))) (c := ((y.2.1 6 ((4 * ((6 * k) + t)) + 1)) - 1)) (i := ii) (l := hf t) (h := (hto t) - 1) hbi q1 (nsub (a := hto t) (b := 1) (by omega) q2 rfl) (by omega) (by omega) (by omega)).symm.trans c_7
            refine lv_iinc (v := j + 1) (lv' := [(5, .int (j + 1)), (6, .int (4 * ((6 * a) + j))), (4, .int (bI gd)), (0, .ref (L (.inl 0))), (1, .int a), (2, .int b)]) hx hb dX10_goesOn_159 hl (k := 1) rfl rfl (by decide) rfl (fun ls hl => ?_)
            refine lv_goto (tgt := 83) hx hb dX10_goesOn_162 (by decide) ?_
            exact ih (t + 1) _ gd _ _ _ _ _ _ ls (by omega) (nadd (a := t) (b := 1) hjt rfl) hR hj (fun w z => by obtain ⟨zz, g1, g2, g3, g4⟩ := hgd w z; exact ⟨zz, g1, g2, g3, ext_no g4 (fun w1 w2 => absurd (decide_eq_true (And.intro w1 w2)) (by rw [show decide (hf t ≤ ii ∧ ii ≤ hto t - 1) = false by assumption]; decide))⟩) (fun w => (hG w).trans (hs_no (of_decide_eq_false (by assumption)))) hG0 hw hS (lv_sub hl [0, 2, 3, 4, 5] rfl)
          · skip
            have c_7 := bI_t c_7
            have c_7 := (isInN (a := b) (b := (y.2.1 6 (4 * ((6 * k) + t)))) (c := ((y.2.1 6 ((4 * ((6 * k) + t)) + 1)) - 1)) (i := ii) (l := hf t) (h := (hto t) - 1) hbi q1 (nsub (a := hto t) (b := 1) (by omega) q2 rfl) (by omega) (by omega) (by omega)).symm.trans c_7
            refine lv_aload_n hx hb dX10_goesOn_138 rfl (lv_at hl 3 rfl) ?_
            refine lv_iload_n hx hb dX10_goesOn_139 rfl (lv_at hl 5 rfl) ?_
            refine m_callv (m_runV (i := .inl 0) (ci := 8) (As := [.int b]) (rest := []) X (k_X10_ahead Γ l L y h3 d3 b) v_X10_ahead ml_X10_222 hw hS rfl rfl rfl rfl hl.1 ⟨Nat.le_of_ble_eq_true rfl, Nat.le_of_ble_eq_true rfl⟩ (Nat.le_of_ble_eq_true rfl) ⟨Nat.le_of_ble_eq_true rfl, Nat.le_of_ble_eq_true rfl⟩ dX10_goesOn_140) hS (fun L1 M1 H locs hp_8 hw hS => ?_)
            obtain ⟨e1, e2⟩ := hp_8
            rw [e1, e2] at hw; clear e1 e2
            refine lv_aload_n hx hb dX10_goesOn_143 rfl (lv_at hl 3 rfl) ?_
            refine lv_iload_n hx hb dX10_goesOn_144 rfl (lv_at hl 4 rfl) ?_
            refine lv_aload_n hx hb dX10_goesOn_145 rfl (lv_at hl 3 rfl) ?_
            refine r_get6 X hw dX10_goesOn_146 ?_
            refine lv_iload hx hb dX10_goesOn_149 (lv_at hl 0 rfl) ?_
            refine lv_iconst (v := 2) hx hb dX10_goesOn_151 (by decide) ?_
            refine lv_iadd hx hb dX10_goesOn_152 ?_
            refine h_ald6 (n := (4 * ((6 * k) + t)) + 2) X hw (nadd (a := 4 * ((6 * k) + t)) (b := 2) (nmul (a := 4) (b := (6 * k) + t) rfl (nadd (a := 6 * k) (b := t) (nmul (a := 6) (b := k) rfl ha) hjt)) rfl) (by omega) dX10_goesOn_153 ?_
            refine m_calli (m_runV (i := .inl 0) (ci := 8) (As := [.int a, .int (y.2.1 6 ((4 * ((6 * k) + t)) + 2))]) (rest := []) X (k_X10_comesTo Γ l L y (p_ahead y h3) 1 a (y.2.1 6 ((4 * ((6 * k) + t)) + 2)) k om c3 (by omega) ha hk hR.1 hR.2.1 hcb) v_X10_comesTo ml_X10_219 hw hS rfl rfl rfl rfl hl.1 ⟨Nat.le_of_ble_eq_true rfl, Nat.le_of_ble_eq_true rfl⟩ (Nat.le_of_ble_eq_true rfl) ⟨Nat.le_of_ble_eq_true rfl, Nat.le_of_ble_eq_true rfl⟩ dX10_goesOn_154) hS (fun r_10 L1 M1 H locs hp_10 hw hS => ?_)
            obtain ⟨er_10, e1, e2⟩ := hp_10
            obtain ⟨c_10, hj_10, hft_10⟩ := comes_jR (y := y) (om := om) (b := y.2.1 6 ((4 * ((6 * k) + t)) + 2)) (q := (p_ahead y h3, 1)) (cb := c3) ho40 (by show 1 ≤ 8; omega) hcb
            rw [e1, e2] at hw; clear e1 e2
            generalize et_10 : (r_comes y om (y.2.1 6 ((4 * ((6 * k) + t)) + 2)) (p_ahead y h3, 1)).1 = t_10 at er_10 hft_10
            generalize ey_10 : (r_comes y om (y.2.1 6 ((4 * ((6 * k) + t)) + 2)) (p_ahead y h3, 1)).2 = y_10 at hw hj_10
            subst er_10
            have hfx_10 : t_10 = true → c_10 = false → fits_ x om (y.2.1 6 ((4 * ((6 * k) + t)) + 2)) (p_ahead y h3, 1) := fun w z => fits_eq ho40 (by show 1 ≤ 8; omega) (hj.2.2.2.1 (hj_10.back z)).1 (hj.2.2.2.1 (hj_10.back z)).2 (hft_10 w z)
            have hj := hj.tr hj_10
            have hcb := hj_10.2.1
            have hR := RC_jk hj_10.1 hR
            refine lv_istore (lv' := [(4, .int (bI t_10)), (6, .int (4 * ((6 * a) + j))), (5, .int j), (0, .ref (L (.inl 0))), (1, .int a), (2, .int b)]) hx hb dX10_goesOn_157 hl (by decide) rfl (fun ls hl => ?_)
            refine lv_iinc (v := j + 1) (lv' := [(5, .int (j + 1)), (4, .int (bI t_10)), (6, .int (4 * ((6 * a) + j))), (0, .ref (L (.inl 0))), (1, .int a), (2, .int b)]) hx hb dX10_goesOn_159 hl (k := 2) rfl rfl (by decide) rfl (fun ls hl => ?_)
            refine lv_goto (tgt := 83) hx hb dX10_goesOn_162 (by decide) ?_
            exact ih (t + 1) _ t_10 _ _ _ _ _ _ ls (by omega) (nadd (a := t) (b := 1) hjt rfl) hR hj (fun w z => by obtain ⟨zz, g1, g2, g3, g4⟩ := hgd (by assumption) (hj_10.back z); exact ⟨zz, g1, g2, g3, ext_yes g4 ⟨_, fun j hj9 => (ahead_lo hj9).trans ((congrFun hjc j).trans (hcm j hj9)), ahead_8, by have := hfx_10 w z; rw [q3] at this; exact this⟩⟩) (fun w => (hG (by assumption)).trans (hs_yes (of_decide_eq_true (by assumption)) (by rw [← q3]; exact et_10.trans w) (by rw [← q3]; exact ey_10))) (fun w => by rw [hG (by assumption)]; exact hs_f (of_decide_eq_true (by assumption)) (by rw [← q3]; exact et_10.trans w)) hw hS (lv_sub hl [0, 1, 3, 4, 5] rfl)
  refine lv_aload_n hx hb dX10_goesOn_0 rfl (lv_at hl 0 rfl) ?_
  refine lv_iload_n hx hb dX10_goesOn_1 rfl (lv_at hl 2 rfl) ?_
  refine m_callv (m_runV (i := .inl 0) (ci := 8) (As := [.int b]) (rest := []) X (k_X10_takes Γ l L x h d b ii e1_ hbi hii he1) v_X10_takes ml_X10_216 hw hS rfl rfl rfl rfl hl.1 ⟨Nat.le_of_ble_eq_true rfl, Nat.le_of_ble_eq_true rfl⟩ (Nat.le_of_ble_eq_true rfl) ⟨Nat.le_of_ble_eq_true rfl, Nat.le_of_ble_eq_true rfl⟩ dX10_goesOn_2) hS (fun L1 M1 H locs hp_11 hw hS => ?_)
  obtain ⟨e1, e2⟩ := hp_11
  rw [e1, e2] at hw; clear e1 e2
  refine lv_aload_n hx hb dX10_goesOn_5 rfl (lv_at hl 0 rfl) ?_
  refine lv_iload_n hx hb dX10_goesOn_6 rfl (lv_at hl 1 rfl) ?_
  refine lv_iload_n hx hb dX10_goesOn_7 rfl (lv_at hl 2 rfl) ?_
  refine m_calli (m_runV (i := .inl 0) (ci := 8) (As := [.int a, .int b]) (rest := []) X (k_X10_does Γ l L x (p_takes x ii h) e1_ a b (by omega) k om ii pm _ _ ha hk hbi (by omega) rfl rfl hR.1 hR.2.1 hR.2.2.2.2.2.1) v_X10_does ml_X10_200 hw hS rfl rfl rfl rfl hl.1 ⟨Nat.le_of_ble_eq_true rfl, Nat.le_of_ble_eq_true rfl⟩ (Nat.le_of_ble_eq_true rfl) ⟨Nat.le_of_ble_eq_true rfl, Nat.le_of_ble_eq_true rfl⟩ dX10_goesOn_8) hS (fun r_14 L1 M1 H locs hp_13 hw hS => ?_)
  obtain ⟨q_14, e1, e2, e3⟩ := hp_13
  rw [e1, e2] at hw; clear e1 e2
  rcases ho_14 : p_op (fun j => x.2.1 3 (40 * k + j)) (fun j => x.2.2 4 (40 * k + j)) k om pm b (x.2.1 3 (40 * k + ii)) (x.2.2 4 (40 * k + ii)) (p_takes x ii h, e1_) with _ | ⟨h_14, d_14⟩
  · rw [ho_14] at e3; subst e3
    refine lv_if_ne (tgt := 16) hx hb dX10_goesOn_11 (by decide) (fun h => absurd rfl h) (fun _ => ?_)
    refine lv_iconst (v := 0) hx hb dX10_goesOn_14 (by decide) ?_
    exact m_zret (b := false) X hr hlk hw hS (Nat.zero_le _) (Nat.zero_le _) rfl ⟨false, x, (q_14.1, q_14.2), cb, rfl, rfl, rfl, hj, fun z => (by cases z), Go_none (by unfold r_code; rw [← hbi]; exact ho_14)⟩ dX10_goesOn_15
  · rw [ho_14] at e3; obtain ⟨e3, e4⟩ := e3; subst e3; subst e4
    have hd_14 := p_op_le ho_14 (by omega)
    refine lv_if_ne (tgt := 16) hx hb dX10_goesOn_11 (by decide) (fun _ => ?_) (fun h => absurd h (by decide))
    refine lv_aload_n hx hb dX10_goesOn_16 rfl (lv_at hl 0 rfl) ?_
    refine r_get3 X hw dX10_goesOn_17 ?_
    refine lv_bipush (v := 40) hx hb dX10_goesOn_20 (by decide) ?_
    refine lv_iload_n hx hb dX10_goesOn_22 rfl (lv_at hl 1 rfl) ?_
    refine lv_imul hx hb dX10_goesOn_23 ?_
    refine lv_iload_n hx hb dX10_goesOn_24 rfl (lv_at hl 2 rfl) ?_
    refine lv_iadd hx hb dX10_goesOn_25 ?_
    refine h_ald3 (n := (40 * k) + ii) X hw (nadd (a := 40 * k) (b := ii) (nmul (a := 40) (b := k) rfl ha) hbi) (by omega) dX10_goesOn_26 ?_
    refine lv_istore_n (lv' := [(3, .int (x.2.1 3 ((40 * k) + ii))), (0, .ref (L (.inl 0))), (1, .int a), (2, .int b)]) hx hb dX10_goesOn_27 rfl hl (by decide) rfl (fun ls hl => ?_)
    refine lv_iload_n hx hb dX10_goesOn_28 rfl (lv_at hl 0 rfl) ?_
    refine m_calli (m_runS (As := [.int (x.2.1 3 ((40 * k) + ii))]) (rest := []) X (k_X10_isLast Γ l L (rM Γ L (sH x (h_14, d_14))) (x.2.1 3 ((40 * k) + ii)) ) s_X10_isLast ml_X10_206 hw hS rfl hl.1 ⟨Nat.le_of_ble_eq_true rfl, Nat.le_of_ble_eq_true rfl⟩ (Nat.le_of_ble_eq_true rfl) ⟨Nat.le_of_ble_eq_true rfl, Nat.le_of_ble_eq_true rfl⟩ dX10_goesOn_29) hS (fun r_18 L1 M1 H locs hp_17 hw hS => ?_)
    obtain ⟨rfl, e1, e2⟩ := hp_17
    rw [e1, e2] at hw; clear e1 e2
    refine lv_if_ne (tgt := 48) hx hb dX10_goesOn_32 (by decide) (fun c_19 => ?_) (fun c_19 => ?_)
    · skip
      have c_19 := bI_t c_19
      refine lv_iload_n hx hb dX10_goesOn_48 rfl (lv_at hl 0 rfl) ?_
      refine m_calli (m_runS (As := [.int (x.2.1 3 ((40 * k) + ii))]) (rest := []) X (k_X10_leads Γ l L (rM Γ L (sH x (h_14, d_14))) (x.2.1 3 ((40 * k) + ii)) ) s_X10_leads ml_X10_203 hw hS rfl hl.1 ⟨Nat.le_of_ble_eq_true rfl, Nat.le_of_ble_eq_true rfl⟩ (Nat.le_of_ble_eq_true rfl) ⟨Nat.le_of_ble_eq_true rfl, Nat.le_of_ble_eq_true rfl⟩ dX10_goesOn_49) hS (fun r_21 L1 M1 H locs hp_20 hw hS => ?_)
      obtain ⟨rfl, e1, e2⟩ := hp_20
      rw [e1, e2] at hw; clear e1 e2
      refine lv_if_eq (tgt := 77) hx hb dX10_goesOn_52 (by decide) (fun c_22 => ?_) (fun c_22 => ?_)
      · skip
        have c_22 := bI_f c_22
        refine lv_iconst (v := 1) hx hb dX10_goesOn_77 (by decide) ?_
        refine lv_istore (lv' := [(4, .int 1), (3, .int (x.2.1 3 ((40 * k) + ii))), (0, .ref (L (.inl 0))), (1, .int a), (2, .int b)]) hx hb dX10_goesOn_78 hl (by decide) rfl (fun ls hl => ?_)
        refine lv_iconst (v := 0) hx hb dX10_goesOn_80 (by decide) ?_
        refine lv_istore (lv' := [(5, .int 0), (4, .int 1), (3, .int (x.2.1 3 ((40 * k) + ii))), (0, .ref (L (.inl 0))), (1, .int a), (2, .int b)]) hx hb dX10_goesOn_81 hl (by decide) rfl (fun ls hl => ?_)
        exact K83 hn 0 _ true _ _ _ _ _ _ ls (by omega) rfl hR hj (fun _ z => ⟨_, (by unfold r_code; rw [← hbi]; exact ho_14), (by first | exact fun w9 => absurd w9 (by rw [show r_last (x.2.1 3 (40 * k + ii)) = true by assumption]; decide) | (intro w9; have e9 := hj z; rw [hbi] at e9; exact e9)), (by first | exact fun w9 => absurd w9 (by rw [show r_leads (x.2.1 3 (40 * k + ii)) = false by assumption]; decide) | (intro w9; have e9 := hj z; first | exact e9 | (rw [hj_0.1.2.2] at e9; exact e9))), fun g hg => absurd hg (Nat.not_lt_zero g)⟩) (fun _ => Go_hs (by unfold r_code; rw [← hbi]; exact ho_14) (cm1_n (by assumption)) (cm2_n (by assumption))) (fun z => (by cases z)) hw hS (lv_sub hl [0, 1, 3, 4, 5] rfl)
      · skip
        have c_22 := bI_t c_22
        obtain ⟨tt, htt, hvt⟩ := p_op_lead (by omega) c_22 ho_14
        refine lv_aload_n hx hb dX10_goesOn_55 rfl (lv_at hl 1 rfl) ?_
        refine lv_iload_n hx hb dX10_goesOn_56 rfl (lv_at hl 2 rfl) ?_
        refine lv_aload_n hx hb dX10_goesOn_57 rfl (lv_at hl 1 rfl) ?_
        refine r_get4 X hw dX10_goesOn_58 ?_
        refine lv_bipush (v := 40) hx hb dX10_goesOn_61 (by decide) ?_
        refine lv_iload_n hx hb dX10_goesOn_63 rfl (lv_at hl 2 rfl) ?_
        refine lv_imul hx hb dX10_goesOn_64 ?_
        refine lv_iload_n hx hb dX10_goesOn_65 rfl (lv_at hl 3 rfl) ?_
        refine lv_iadd hx hb dX10_goesOn_66 ?_
        refine h_ald4 (n := (40 * k) + ii) X hw (nadd (a := 40 * k) (b := ii) (nmul (a := 40) (b := k) rfl ha) hbi) (by omega) dX10_goesOn_67 ?_
        refine lv_l2i (v := (x.2.2 4 ((40 * k) + ii)).toInt32) hx hb dX10_goesOn_68 rfl ?_
        refine m_calli (m_runV (i := .inl 0) (ci := 8) (As := [.int a, .int ((x.2.2 4 ((40 * k) + ii)).toInt32)]) (rest := []) X (k_X10_comesTo Γ l L x h_14 d_14 a ((x.2.2 4 ((40 * k) + ii)).toInt32) k om cb (by omega) ha hk hR.1 hR.2.1 hcb) v_X10_comesTo ml_X10_219 hw hS rfl rfl rfl rfl hl.1 ⟨Nat.le_of_ble_eq_true rfl, Nat.le_of_ble_eq_true rfl⟩ (Nat.le_of_ble_eq_true rfl) ⟨Nat.le_of_ble_eq_true rfl, Nat.le_of_ble_eq_true rfl⟩ dX10_goesOn_69) hS (fun r_23 L1 M1 H locs hp_23 hw hS => ?_)
        obtain ⟨er_23, e1, e2⟩ := hp_23
        obtain ⟨c_23, hj_23, hft_23⟩ := comes_jR (y := x) (om := om) (b := (x.2.2 4 ((40 * k) + ii)).toInt32) (q := (h_14, d_14)) (cb := cb) ho40 (by show d_14 ≤ 8; omega) hcb
        rw [e1, e2] at hw; clear e1 e2
        generalize et_23 : (r_comes x om ((x.2.2 4 ((40 * k) + ii)).toInt32) (h_14, d_14)).1 = t_23 at er_23 hft_23
        generalize ey_23 : (r_comes x om ((x.2.2 4 ((40 * k) + ii)).toInt32) (h_14, d_14)).2 = y_23 at hw hj_23
        subst er_23
        have hfx_23 : t_23 = true → c_23 = false → fits_ x om ((x.2.2 4 ((40 * k) + ii)).toInt32) (h_14, d_14) := fun w z => fits_eq ho40 (by show d_14 ≤ 8; omega) (hj.2.2.2.1 (hj_23.back z)).1 (hj.2.2.2.1 (hj_23.back z)).2 (hft_23 w z)
        have hj := hj.tr hj_23
        have hcb := hj_23.2.1
        have hR := RC_jk hj_23.1 hR
        refine lv_if_ne (tgt := 77) hx hb dX10_goesOn_72 (by decide) (fun c_24 => ?_) (fun c_24 => ?_)
        · skip
          have c_24 := bI_t c_24
          have hft2_23 := hfx_23 c_24
          refine lv_iconst (v := 1) hx hb dX10_goesOn_77 (by decide) ?_
          refine lv_istore (lv' := [(4, .int 1), (3, .int (x.2.1 3 ((40 * k) + ii))), (0, .ref (L (.inl 0))), (1, .int a), (2, .int b)]) hx hb dX10_goesOn_78 hl (by decide) rfl (fun ls hl => ?_)
          refine lv_iconst (v := 0) hx hb dX10_goesOn_80 (by decide) ?_
          refine lv_istore (lv' := [(5, .int 0), (4, .int 1), (3, .int (x.2.1 3 ((40 * k) + ii))), (0, .ref (L (.inl 0))), (1, .int a), (2, .int b)]) hx hb dX10_goesOn_81 hl (by decide) rfl (fun ls hl => ?_)
          exact K83 hn 0 _ true _ _ _ _ _ _ ls (by omega) rfl hR hj (fun _ z => ⟨_, (by unfold r_code; rw [← hbi]; exact ho_14), (by first | exact fun w9 => absurd w9 (by rw [show r_last (x.2.1 3 (40 * k + ii)) = true by assumption]; decide) | (intro w9; have e9 := hft2_23 z; rw [hbi] at e9; exact e9)), (by first | exact fun w9 => absurd w9 (by rw [show r_leads (x.2.1 3 (40 * k + ii)) = false by assumption]; decide) | (intro w9; have e9 := hft2_23 z; first | exact e9 | (rw [hj_23.1.2.2] at e9; exact e9))), fun g hg => absurd hg (Nat.not_lt_zero g)⟩) (fun _ => (by first | exact Go_hs (by unfold r_code; rw [← hbi]; exact ho_14) (cm1_t (by assumption) (by rw [← hbi]; exact et_23.trans (by assumption)) (by rw [← hbi]; exact ey_23)) (cm2_n (by assumption)) | exact Go_hs (by unfold r_code; rw [← hbi]; exact ho_14) (cm1_n (by assumption)) (cm2_t (by assumption) (et_23.trans (by assumption)) ey_23))) (fun z => (by cases z)) hw hS (lv_sub hl [0, 1, 3, 4, 5] rfl)
        · skip
          have c_24 := bI_f c_24
          refine lv_iconst (v := 0) hx hb dX10_goesOn_75 (by decide) ?_
          exact m_zret (b := false) X hr hlk hw hS (Nat.zero_le _) (Nat.zero_le _) rfl ⟨false, y_23, (h_14, d_14), c_23, rfl, rfl, rfl, hj, fun z => (by cases z), (by first | exact Go_f1 (by unfold r_code; rw [← hbi]; exact ho_14) (by assumption) (by rw [← hbi]; exact et_23.trans (by assumption)) | exact Go_f2 (by unfold r_code; rw [← hbi]; exact ho_14) (cm1_n (by assumption)) (by assumption) (et_23.trans (by assumption)))⟩ dX10_goesOn_76
    · skip
      have c_19 := bI_f c_19
      refine lv_aload_n hx hb dX10_goesOn_35 rfl (lv_at hl 1 rfl) ?_
      refine lv_iload_n hx hb dX10_goesOn_36 rfl (lv_at hl 2 rfl) ?_
      refine lv_iload_n hx hb dX10_goesOn_37 rfl (lv_at hl 3 rfl) ?_
      refine lv_iconst (v := 1) hx hb dX10_goesOn_38 (by decide) ?_
      refine lv_iadd hx hb dX10_goesOn_39 ?_
      refine m_calli (m_runV (i := .inl 0) (ci := 8) (As := [.int a, .int (b + 1)]) (rest := []) X (k_X10_comesTo Γ l L x h_14 d_14 a (b + 1) k om cb (by omega) ha hk hR.1 hR.2.1 hcb) v_X10_comesTo ml_X10_219 hw hS rfl rfl rfl rfl hl.1 ⟨Nat.le_of_ble_eq_true rfl, Nat.le_of_ble_eq_true rfl⟩ (Nat.le_of_ble_eq_true rfl) ⟨Nat.le_of_ble_eq_true rfl, Nat.le_of_ble_eq_true rfl⟩ dX10_goesOn_40) hS (fun r_25 L1 M1 H locs hp_25 hw hS => ?_)
      obtain ⟨er_25, e1, e2⟩ := hp_25
      obtain ⟨c_25, hj_25, hft_25⟩ := comes_jR (y := x) (om := om) (b := b + 1) (q := (h_14, d_14)) (cb := cb) ho40 (by show d_14 ≤ 8; omega) hcb
      rw [e1, e2] at hw; clear e1 e2
      generalize et_25 : (r_comes x om (b + 1) (h_14, d_14)).1 = t_25 at er_25 hft_25
      generalize ey_25 : (r_comes x om (b + 1) (h_14, d_14)).2 = y_25 at hw hj_25
      subst er_25
      have hfx_25 : t_25 = true → c_25 = false → fits_ x om (b + 1) (h_14, d_14) := fun w z => fits_eq ho40 (by show d_14 ≤ 8; omega) (hj.2.2.2.1 (hj_25.back z)).1 (hj.2.2.2.1 (hj_25.back z)).2 (hft_25 w z)
      have hj := hj.tr hj_25
      have hcb := hj_25.2.1
      have hR := RC_jk hj_25.1 hR
      refine lv_if_ne (tgt := 48) hx hb dX10_goesOn_43 (by decide) (fun c_26 => ?_) (fun c_26 => ?_)
      · skip
        have c_26 := bI_t c_26
        have hft2_25 := hfx_25 c_26
        refine lv_iload_n hx hb dX10_goesOn_48 rfl (lv_at hl 0 rfl) ?_
        refine m_calli (m_runS (As := [.int (x.2.1 3 ((40 * k) + ii))]) (rest := []) X (k_X10_leads Γ l L (rM Γ L (sH y_25 (h_14, d_14))) (x.2.1 3 ((40 * k) + ii)) ) s_X10_leads ml_X10_203 hw hS rfl hl.1 ⟨Nat.le_of_ble_eq_true rfl, Nat.le_of_ble_eq_true rfl⟩ (Nat.le_of_ble_eq_true rfl) ⟨Nat.le_of_ble_eq_true rfl, Nat.le_of_ble_eq_true rfl⟩ dX10_goesOn_49) hS (fun r_28 L1 M1 H locs hp_27 hw hS => ?_)
        obtain ⟨rfl, e1, e2⟩ := hp_27
        rw [e1, e2] at hw; clear e1 e2
        refine lv_if_eq (tgt := 77) hx hb dX10_goesOn_52 (by decide) (fun c_29 => ?_) (fun c_29 => ?_)
        · skip
          have c_29 := bI_f c_29
          refine lv_iconst (v := 1) hx hb dX10_goesOn_77 (by decide) ?_
          refine lv_istore (lv' := [(4, .int 1), (3, .int (x.2.1 3 ((40 * k) + ii))), (0, .ref (L (.inl 0))), (1, .int a), (2, .int b)]) hx hb dX10_goesOn_78 hl (by decide) rfl (fun ls hl => ?_)
          refine lv_iconst (v := 0) hx hb dX10_goesOn_80 (by decide) ?_
          refine lv_istore (lv' := [(5, .int 0), (4, .int 1), (3, .int (x.2.1 3 ((40 * k) + ii))), (0, .ref (L (.inl 0))), (1, .int a), (2, .int b)]) hx hb dX10_goesOn_81 hl (by decide) rfl (fun ls hl => ?_)
          exact K83 hn 0 _ true _ _ _ _ _ _ ls (by omega) rfl hR hj (fun _ z => ⟨_, (by unfold r_code; rw [← hbi]; exact ho_14), (by first | exact fun w9 => absurd w9 (by rw [show r_last (x.2.1 3 (40 * k + ii)) = true by assumption]; decide) | (intro w9; have e9 := hft2_25 z; rw [hbi] at e9; exact e9)), (by first | exact fun w9 => absurd w9 (by rw [show r_leads (x.2.1 3 (40 * k + ii)) = false by assumption]; decide) | (intro w9; have e9 := hft2_25 z; first | exact e9 | (rw [hj_25.1.2.2] at e9; exact e9))), fun g hg => absurd hg (Nat.not_lt_zero g)⟩) (fun _ => (by first | exact Go_hs (by unfold r_code; rw [← hbi]; exact ho_14) (cm1_t (by assumption) (by rw [← hbi]; exact et_25.trans (by assumption)) (by rw [← hbi]; exact ey_25)) (cm2_n (by assumption)) | exact Go_hs (by unfold r_code; rw [← hbi]; exact ho_14) (cm1_n (by assumption)) (cm2_t (by assumption) (et_25.trans (by assumption)) ey_25))) (fun z => (by cases z)) hw hS (lv_sub hl [0, 1, 3, 4, 5] rfl)
        · skip
          have c_29 := bI_t c_29
          obtain ⟨tt, htt, hvt⟩ := p_op_lead (by omega) c_29 ho_14
          refine lv_aload_n hx hb dX10_goesOn_55 rfl (lv_at hl 1 rfl) ?_
          refine lv_iload_n hx hb dX10_goesOn_56 rfl (lv_at hl 2 rfl) ?_
          refine lv_aload_n hx hb dX10_goesOn_57 rfl (lv_at hl 1 rfl) ?_
          refine r_get4 X hw dX10_goesOn_58 ?_
          refine lv_bipush (v := 40) hx hb dX10_goesOn_61 (by decide) ?_
          refine lv_iload_n hx hb dX10_goesOn_63 rfl (lv_at hl 2 rfl) ?_
          refine lv_imul hx hb dX10_goesOn_64 ?_
          refine lv_iload_n hx hb dX10_goesOn_65 rfl (lv_at hl 3 rfl) ?_
          refine lv_iadd hx hb dX10_goesOn_66 ?_
          refine h_ald4 (n := (40 * k) + ii) X hw (nadd (a := 40 * k) (b := ii) (nmul (a := 40) (b := k) rfl ha) hbi) (by omega) dX10_goesOn_67 ?_
          refine lv_l2i (v := (y_25.2.2 4 ((40 * k) + ii)).toInt32) hx hb dX10_goesOn_68 rfl ?_
          refine m_calli (m_runV (i := .inl 0) (ci := 8) (As := [.int a, .int ((y_25.2.2 4 ((40 * k) + ii)).toInt32)]) (rest := []) X (k_X10_comesTo Γ l L y_25 h_14 d_14 a ((y_25.2.2 4 ((40 * k) + ii)).toInt32) k om c_25 (by omega) ha hk hR.1 hR.2.1 hcb) v_X10_comesTo ml_X10_219 hw hS rfl rfl rfl rfl hl.1 ⟨Nat.le_of_ble_eq_true rfl, Nat.le_of_ble_eq_true rfl⟩ (Nat.le_of_ble_eq_true rfl) ⟨Nat.le_of_ble_eq_true rfl, Nat.le_of_ble_eq_true rfl⟩ dX10_goesOn_69) hS (fun r_30 L1 M1 H locs hp_30 hw hS => ?_)
          obtain ⟨er_30, e1, e2⟩ := hp_30
          obtain ⟨c_30, hj_30, hft_30⟩ := comes_jR (y := y_25) (om := om) (b := (y_25.2.2 4 ((40 * k) + ii)).toInt32) (q := (h_14, d_14)) (cb := c_25) ho40 (by show d_14 ≤ 8; omega) hcb
          rw [e1, e2] at hw; clear e1 e2
          generalize et_30 : (r_comes y_25 om ((y_25.2.2 4 ((40 * k) + ii)).toInt32) (h_14, d_14)).1 = t_30 at er_30 hft_30
          generalize ey_30 : (r_comes y_25 om ((y_25.2.2 4 ((40 * k) + ii)).toInt32) (h_14, d_14)).2 = y_30 at hw hj_30
          subst er_30
          have hfx_30 : t_30 = true → c_30 = false → fits_ x om ((y_25.2.2 4 ((40 * k) + ii)).toInt32) (h_14, d_14) := fun w z => fits_eq ho40 (by show d_14 ≤ 8; omega) (hj.2.2.2.1 (hj_30.back z)).1 (hj.2.2.2.1 (hj_30.back z)).2 (hft_30 w z)
          have hft2_25 := fun z => hft2_25 (hj_30.back z)
          have hj := hj.tr hj_30
          have hcb := hj_30.2.1
          have hR := RC_jk hj_30.1 hR
          refine lv_if_ne (tgt := 77) hx hb dX10_goesOn_72 (by decide) (fun c_31 => ?_) (fun c_31 => ?_)
          · skip
            have c_31 := bI_t c_31
            have hft2_30 := hfx_30 c_31
            refine lv_iconst (v := 1) hx hb dX10_goesOn_77 (by decide) ?_
            refine lv_istore (lv' := [(4, .int 1), (3, .int (x.2.1 3 ((40 * k) + ii))), (0, .ref (L (.inl 0))), (1, .int a), (2, .int b)]) hx hb dX10_goesOn_78 hl (by decide) rfl (fun ls hl => ?_)
            refine lv_iconst (v := 0) hx hb dX10_goesOn_80 (by decide) ?_
            refine lv_istore (lv' := [(5, .int 0), (4, .int 1), (3, .int (x.2.1 3 ((40 * k) + ii))), (0, .ref (L (.inl 0))), (1, .int a), (2, .int b)]) hx hb dX10_goesOn_81 hl (by decide) rfl (fun ls hl => ?_)
            exact K83 hn 0 _ true _ _ _ _ _ _ ls (by omega) rfl hR hj (fun _ z => ⟨_, (by unfold r_code; rw [← hbi]; exact ho_14), (by first | exact fun w9 => absurd w9 (by rw [show r_last (x.2.1 3 (40 * k + ii)) = true by assumption]; decide) | (intro w9; have e9 := hft2_25 z; rw [hbi] at e9; exact e9)), (by first | exact fun w9 => absurd w9 (by rw [show r_leads (x.2.1 3 (40 * k + ii)) = false by assumption]; decide) | (intro w9; have e9 := hft2_30 z; first | exact e9 | (rw [hj_25.1.2.2] at e9; exact e9))), fun g hg => absurd hg (Nat.not_lt_zero g)⟩) (fun _ => Go_hs (by unfold r_code; rw [← hbi]; exact ho_14) (cm1_t (by assumption) (by rw [← hbi]; exact et_25.trans (by assumption)) (by rw [← hbi]; exact ey_25)) (cm2_t (by assumption) (et_30.trans (by assumption)) ey_30)) (fun z => (by cases z)) hw hS (lv_sub hl [0, 1, 3, 4, 5] rfl)
          · skip
            have c_31 := bI_f c_31
            refine lv_iconst (v := 0) hx hb dX10_goesOn_75 (by decide) ?_
            exact m_zret (b := false) X hr hlk hw hS (Nat.zero_le _) (Nat.zero_le _) rfl ⟨false, y_30, (h_14, d_14), c_30, rfl, rfl, rfl, hj, fun z => (by cases z), Go_f2 (by unfold r_code; rw [← hbi]; exact ho_14) (cm1_t (by assumption) (by rw [← hbi]; exact et_25.trans (by assumption)) (by rw [← hbi]; exact ey_25)) (by assumption) (et_30.trans (by assumption))⟩ dX10_goesOn_76
      · skip
        have c_26 := bI_f c_26
        refine lv_iconst (v := 0) hx hb dX10_goesOn_46 (by decide) ?_
        exact m_zret (b := false) X hr hlk hw hS (Nat.zero_le _) (Nat.zero_le _) rfl ⟨false, y_25, (h_14, d_14), c_25, rfl, rfl, rfl, hj, fun z => (by cases z), (by first | exact Go_f1 (by unfold r_code; rw [← hbi]; exact ho_14) (by assumption) (by rw [← hbi]; exact et_25.trans (by assumption)) | exact Go_f2 (by unfold r_code; rw [← hbi]; exact ho_14) (cm1_n (by assumption)) (by assumption) (et_25.trans (by assumption)))⟩ dX10_goesOn_47
