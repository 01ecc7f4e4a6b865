/-! THE LAW'S CASES -/
section CV
variable {Γ : mG} {L L1 : mI → Nat} {M1 : mM} {x : CS} {y : RS}
theorem cv_id (hI : CInv x) (hT : Tie3 x y) (h : L1 = L ∧ M1 = cM Γ L x) : ∃ c1, M1 = cM Γ L1 c1 ∧ CInv c1 ∧ L1 (nm 0 0) = L (nm 0 0) ∧ Tie3 c1 y := by
  obtain ⟨rfl, rfl⟩ := h
  exact ⟨x, rfl, hI, rfl, hT⟩
theorem cv_kp (h : L1 = L ∧ ∃ c1 : CS, M1 = cM Γ L c1 ∧ CInv c1 ∧ kp x c1) : ∃ c1, M1 = cM Γ L1 c1 ∧ CInv c1 ∧ L1 (nm 0 0) = L (nm 0 0) ∧ kp x c1 := by
  obtain ⟨rfl, c1, rfl, h, k⟩ := h
  exact ⟨c1, rfl, h, rfl, k⟩
end CV
section LC
variable {p : Program} {l : Launch} {e : Env} {s : State} {m : MethodId} {below : List Frame} {meth : Method} {c : Code} {H : Heap} {Q : State → Prop}
variable {ls : Array Slot} {Γ : mG} {LC LR : mI → Nat} {c0 : CS} {x : RS} {b L k ca sl : Nat} {xs : Nat → Int32} {i : Int32}
/-- behind a case -/
abbrev lwK (p : Program) (l : Launch) (e : Env) (s : State) (m : MethodId) (below : List Frame) (meth : Method) (c : Code) (Q : State → Prop) (ls : Array Slot) (Γ : mG) (b q0 : Nat) (LR : mI → Nat) (ca sl : Nat) : Prop := ∀ (LC : mI → Nat) (c0 : CS) (x : RS) (H : Heap), lwW Γ s LC (cM Γ LC c0) LR (rM Γ LR x) H → CInv c0 → RInv x → LC (nm 0 0) = q0 → Tie3 c0 x → W p l e room_1 s m #[Value.ref b] below meth c H [] (ca + 8) (sl + 156) Q (F0 m 642 ls [])
set_option maxHeartbeats 4000000 in
set_option maxRecDepth 100000 in
theorem lw_case0 (X : mX Γ p m c code 4 s #[Value.ref b] RL (fun q => s.heap.size ≤ q)) (hX : va_X b L xs s s.heap) (hbl : b < s.heap.size) (hL : L < 2 ^ 31) (hi : i = nI k) (hk : k + 5 < L) (hca : ca + 8 ≤ 600000) (hsl : sl + 156 ≤ 7302249) (hw : lwW Γ s LC (cM Γ LC c0) LR (rM Γ LR x) H) (hI : CInv c0) (hRI : RInv x) (hTi : Tie3 c0 x) (hl : lv_has ls 4 [(3, .int i), (2, .ref (LR (.inl 0))), (1, .ref (LC (nm 0 0))), (0, .ref b)]) (kk : lwK p l e s m below meth c Q ls Γ b (LC (nm 0 0)) LR ca sl) : W p l e room_1 s m #[Value.ref b] below meth c H [] ca sl Q (F0 m 104 ls []) := by
  have hx := X.1.1
  have hb := X.1.2.1
  have hbA : ¬ (fun q => s.heap.size ≤ q) b := Nat.not_le.mpr hbl
  obtain ⟨n, h8, hnn, h3, h4, h5⟩ := id hRI
  refine lv_aload_n hx hb dL_law_104 rfl (lv_at hl 2 rfl) ?_
  refine lv_aload_n hx hb dL_law_105 rfl (lv_at hl 3 rfl) ?_
  refine lv_iload_n hx hb dL_law_106 rfl (lv_at hl 0 rfl) ?_
  refine lv_iconst (v := 1) hx hb dL_law_107 (by decide) ?_
  refine lv_iadd hx hb dL_law_108 ?_
  refine va_sld hx hb hX hbl hbA hw.S (lw_in (j := 1) hi rfl (by omega) hL) dL_law_109 ?_
  refine lw_callC (i := nm 0 0) (ci := 7) (As := [.int (xs (i + 1).toNatClampNeg)]) (rest := []) X hw (k_X9_method Γ l LC c0 (xs (i + 1).toNatClampNeg) hI) rfl v_X9_method ml_L_13 rfl rfl rfl rfl hl.1 ⟨Nat.le_of_ble_eq_true rfl, Nat.le_of_ble_eq_true rfl⟩ (Nat.le_of_ble_eq_true rfl) ⟨Nat.le_trans (show ca + 8 ≤ 600000 by omega) (Nat.le_of_ble_eq_true rfl), Nat.le_trans (show sl + 156 ≤ 7302249 by omega) (Nat.le_of_ble_eq_true rfl)⟩ dL_law_110 (fun v1 LC1 MC1 H1 hp1 hw => ?_)
  obtain ⟨c1, e1, hI1, hq1, hT1, hv1⟩ := tw_method hI hTi hnn h8 hp1
  subst e1
  refine lv_pop hx hb dL_law_113 rfl ?_
  refine lv_aload_n hx hb dL_law_114 rfl (lv_at hl 1 rfl) ?_
  refine lv_aload_n hx hb dL_law_115 rfl (lv_at hl 3 rfl) ?_
  refine lv_iload_n hx hb dL_law_116 rfl (lv_at hl 0 rfl) ?_
  refine lv_iconst (v := 1) hx hb dL_law_117 (by decide) ?_
  refine lv_iadd hx hb dL_law_118 ?_
  refine va_sld hx hb hX hbl hbA hw.S (lw_in (j := 1) hi rfl (by omega) hL) dL_law_119 ?_
  refine lw_callR (i := .inl 0) (ci := 8) (As := [.int (xs (i + 1).toNatClampNeg)]) (rest := []) X hw (k_X10_method Γ l LR x (xs (i + 1).toNatClampNeg) n hnn h8) rfl v_X10_method ml_L_17 rfl rfl rfl rfl hl.1 ⟨Nat.le_of_ble_eq_true rfl, Nat.le_of_ble_eq_true rfl⟩ (Nat.le_of_ble_eq_true rfl) ⟨Nat.le_trans (show ca + 8 + 0 ≤ 600000 by omega) (Nat.le_of_ble_eq_true rfl), Nat.le_trans (show sl + 156 + 0 ≤ 7302249 by omega) (Nat.le_of_ble_eq_true rfl)⟩ dL_law_120 (fun v2 LR1 MR1 H2 hp2 hw => ?_)
  obtain ⟨hv2, e1, e2⟩ := hp2
  subst e1; subst e2
  have hR1 := @RI_method x n (xs (i + 1).toNatClampNeg) hRI hnn h8
  refine lv_pop hx hb dL_law_123 rfl ?_
  refine lv_goto (tgt := 642) hx hb dL_law_124 (by decide) ?_
  exact W.widen (k := ca + 8) (n := sl + 156) (show ca + 8 + 0 ≤ ca + 8 by omega) (show sl + 156 + 0 ≤ sl + 156 by omega) (kk _ _ _ _ hw hI1 hR1 hq1 hT1)
set_option maxHeartbeats 4000000 in
set_option maxRecDepth 100000 in
theorem lw_case1 (X : mX Γ p m c code 4 s #[Value.ref b] RL (fun q => s.heap.size ≤ q)) (hX : va_X b L xs s s.heap) (hbl : b < s.heap.size) (hL : L < 2 ^ 31) (hi : i = nI k) (hk : k + 5 < L) (hca : ca + 8 ≤ 600000) (hsl : sl + 156 ≤ 7302249) (hw : lwW Γ s LC (cM Γ LC c0) LR (rM Γ LR x) H) (hI : CInv c0) (hRI : RInv x) (hTi : Tie3 c0 x) (hl : lv_has ls 4 [(3, .int i), (2, .ref (LR (.inl 0))), (1, .ref (LC (nm 0 0))), (0, .ref b)]) (kk : lwK p l e s m below meth c Q ls Γ b (LC (nm 0 0)) LR ca sl) : W p l e room_1 s m #[Value.ref b] below meth c H [] ca sl Q (F0 m 127 ls []) := by
  have hx := X.1.1
  have hb := X.1.2.1
  have hbA : ¬ (fun q => s.heap.size ≤ q) b := Nat.not_le.mpr hbl
  obtain ⟨n, h8, hnn, h3, h4, h5⟩ := id hRI
  refine lv_aload_n hx hb dL_law_127 rfl (lv_at hl 2 rfl) ?_
  refine lv_aload_n hx hb dL_law_128 rfl (lv_at hl 3 rfl) ?_
  refine lv_iload_n hx hb dL_law_129 rfl (lv_at hl 0 rfl) ?_
  refine lv_iconst (v := 1) hx hb dL_law_130 (by decide) ?_
  refine lv_iadd hx hb dL_law_131 ?_
  refine va_sld hx hb hX hbl hbA hw.S (lw_in (j := 1) hi rfl (by omega) hL) dL_law_132 ?_
  refine lv_aload_n hx hb dL_law_133 rfl (lv_at hl 3 rfl) ?_
  refine lv_iload_n hx hb dL_law_134 rfl (lv_at hl 0 rfl) ?_
  refine lv_iconst (v := 2) hx hb dL_law_135 (by decide) ?_
  refine lv_iadd hx hb dL_law_136 ?_
  refine va_sld hx hb hX hbl hbA hw.S (lw_in (j := 2) hi rfl (by omega) hL) dL_law_137 ?_
  refine lv_aload_n hx hb dL_law_138 rfl (lv_at hl 3 rfl) ?_
  refine lv_iload_n hx hb dL_law_139 rfl (lv_at hl 0 rfl) ?_
  refine lv_iconst (v := 3) hx hb dL_law_140 (by decide) ?_
  refine lv_iadd hx hb dL_law_141 ?_
  refine va_sld hx hb hX hbl hbA hw.S (lw_in (j := 3) hi rfl (by omega) hL) dL_law_142 ?_
  refine lv_i2l (v := (xs (i + 3).toNatClampNeg).toInt64) hx hb dL_law_143 rfl ?_
  refine lv_bipush (v := 32) hx hb dL_law_144 (by decide) ?_
  refine lv_lshl (v := ((xs (i + 3).toNatClampNeg).toInt64) <<< ((32 : Int32).toInt64 &&& 63)) hx hb dL_law_146 rfl ?_
  refine lv_aload_n hx hb dL_law_147 rfl (lv_at hl 3 rfl) ?_
  refine lv_iload_n hx hb dL_law_148 rfl (lv_at hl 0 rfl) ?_
  refine lv_iconst (v := 4) hx hb dL_law_149 (by decide) ?_
  refine lv_iadd hx hb dL_law_150 ?_
  refine va_sld hx hb hX hbl hbA hw.S (lw_in (j := 4) hi rfl (by omega) hL) dL_law_151 ?_
  refine lv_i2l (v := (xs (i + 4).toNatClampNeg).toInt64) hx hb dL_law_152 rfl ?_
  refine lv_ldc2 (v := 4294967295) hx hb X.1.2.2.2.1 (X.1.2.2.2.2 _ kl_L_18) dL_law_153 ?_
  refine lv_land hx hb dL_law_156 ?_
  refine lv_lor hx hb dL_law_157 ?_
  refine lw_callC (i := nm 0 0) (ci := 7) (As := [.int (xs (i + 1).toNatClampNeg), .int (xs (i + 2).toNatClampNeg), .long ((((xs (i + 3).toNatClampNeg).toInt64) <<< ((32 : Int32).toInt64 &&& 63)) ||| (((xs (i + 4).toNatClampNeg).toInt64) &&& 4294967295))]) (rest := []) X hw (k_X9_op Γ l LC c0 (xs (i + 1).toNatClampNeg) (xs (i + 2).toNatClampNeg) ((((xs (i + 3).toNatClampNeg).toInt64) <<< ((32 : Int32).toInt64 &&& 63)) ||| (((xs (i + 4).toNatClampNeg).toInt64) &&& 4294967295)) hI) rfl v_X9_op ml_L_20 rfl rfl rfl rfl hl.1 ⟨Nat.le_of_ble_eq_true rfl, Nat.le_of_ble_eq_true rfl⟩ (Nat.le_of_ble_eq_true rfl) ⟨Nat.le_trans (show ca + 0 ≤ 600000 by omega) (Nat.le_of_ble_eq_true rfl), Nat.le_trans (show sl + 0 ≤ 7302249 by omega) (Nat.le_of_ble_eq_true rfl)⟩ dL_law_158 (fun v1 LC1 MC1 H1 hp1 hw => ?_)
  obtain ⟨c1, e1, hI1, hq1, hT1, hv1⟩ := tw_op hI hTi hRI hnn h8 hp1
  subst e1
  refine lv_pop hx hb dL_law_161 rfl ?_
  refine lv_aload_n hx hb dL_law_162 rfl (lv_at hl 1 rfl) ?_
  refine lv_aload_n hx hb dL_law_163 rfl (lv_at hl 3 rfl) ?_
  refine lv_iload_n hx hb dL_law_164 rfl (lv_at hl 0 rfl) ?_
  refine lv_iconst (v := 1) hx hb dL_law_165 (by decide) ?_
  refine lv_iadd hx hb dL_law_166 ?_
  refine va_sld hx hb hX hbl hbA hw.S (lw_in (j := 1) hi rfl (by omega) hL) dL_law_167 ?_
  refine lv_aload_n hx hb dL_law_168 rfl (lv_at hl 3 rfl) ?_
  refine lv_iload_n hx hb dL_law_169 rfl (lv_at hl 0 rfl) ?_
  refine lv_iconst (v := 2) hx hb dL_law_170 (by decide) ?_
  refine lv_iadd hx hb dL_law_171 ?_
  refine va_sld hx hb hX hbl hbA hw.S (lw_in (j := 2) hi rfl (by omega) hL) dL_law_172 ?_
  refine lv_aload_n hx hb dL_law_173 rfl (lv_at hl 3 rfl) ?_
  refine lv_iload_n hx hb dL_law_174 rfl (lv_at hl 0 rfl) ?_
  refine lv_iconst (v := 3) hx hb dL_law_175 (by decide) ?_
  refine lv_iadd hx hb dL_law_176 ?_
  refine va_sld hx hb hX hbl hbA hw.S (lw_in (j := 3) hi rfl (by omega) hL) dL_law_177 ?_
  refine lv_i2l (v := (xs (i + 3).toNatClampNeg).toInt64) hx hb dL_law_178 rfl ?_
  refine lv_bipush (v := 32) hx hb dL_law_179 (by decide) ?_
  refine lv_lshl (v := ((xs (i + 3).toNatClampNeg).toInt64) <<< ((32 : Int32).toInt64 &&& 63)) hx hb dL_law_181 rfl ?_
  refine lv_aload_n hx hb dL_law_182 rfl (lv_at hl 3 rfl) ?_
  refine lv_iload_n hx hb dL_law_183 rfl (lv_at hl 0 rfl) ?_
  refine lv_iconst (v := 4) hx hb dL_law_184 (by decide) ?_
  refine lv_iadd hx hb dL_law_185 ?_
  refine va_sld hx hb hX hbl hbA hw.S (lw_in (j := 4) hi rfl (by omega) hL) dL_law_186 ?_
  refine lv_i2l (v := (xs (i + 4).toNatClampNeg).toInt64) hx hb dL_law_187 rfl ?_
  refine lv_ldc2 (v := 4294967295) hx hb X.1.2.2.2.1 (X.1.2.2.2.2 _ kl_L_18) dL_law_188 ?_
  refine lv_land hx hb dL_law_191 ?_
  refine lv_lor hx hb dL_law_192 ?_
  refine lw_callR (i := .inl 0) (ci := 8) (As := [.int (xs (i + 1).toNatClampNeg), .int (xs (i + 2).toNatClampNeg), .long ((((xs (i + 3).toNatClampNeg).toInt64) <<< ((32 : Int32).toInt64 &&& 63)) ||| (((xs (i + 4).toNatClampNeg).toInt64) &&& 4294967295))]) (rest := []) X hw (k_X10_op Γ l LR x (xs (i + 1).toNatClampNeg) (xs (i + 2).toNatClampNeg) ((((xs (i + 3).toNatClampNeg).toInt64) <<< ((32 : Int32).toInt64 &&& 63)) ||| (((xs (i + 4).toNatClampNeg).toInt64) &&& 4294967295)) n hnn h8 (oM x) (fun k hk => (h3 k hk).1) (fun k hk => (h3 k hk).2.1)) rfl v_X10_op ml_L_24 rfl rfl rfl rfl hl.1 ⟨Nat.le_of_ble_eq_true rfl, Nat.le_of_ble_eq_true rfl⟩ (Nat.le_of_ble_eq_true rfl) ⟨Nat.le_trans (show ca + 0 + 0 ≤ 600000 by omega) (Nat.le_of_ble_eq_true rfl), Nat.le_trans (show sl + 0 + 0 ≤ 7302249 by omega) (Nat.le_of_ble_eq_true rfl)⟩ dL_law_193 (fun v2 LR1 MR1 H2 hp2 hw => ?_)
  obtain ⟨hv2, e1, e2⟩ := hp2
  subst e1; subst e2
  have hR1 := @RI_op x n (xs (i + 1).toNatClampNeg) (xs (i + 2).toNatClampNeg) ((((xs (i + 3).toNatClampNeg).toInt64) <<< ((32 : Int32).toInt64 &&& 63)) ||| (((xs (i + 4).toNatClampNeg).toInt64) &&& 4294967295)) hRI h8
  refine lv_pop hx hb dL_law_196 rfl ?_
  refine lv_goto (tgt := 642) hx hb dL_law_197 (by decide) ?_
  exact W.widen (k := ca + 8) (n := sl + 156) (show ca + 0 + 0 ≤ ca + 8 by omega) (show sl + 0 + 0 ≤ sl + 156 by omega) (kk _ _ _ _ hw hI1 hR1 hq1 hT1)
set_option maxHeartbeats 4000000 in
set_option maxRecDepth 100000 in
theorem lw_case2 (X : mX Γ p m c code 4 s #[Value.ref b] RL (fun q => s.heap.size ≤ q)) (hX : va_X b L xs s s.heap) (hbl : b < s.heap.size) (hL : L < 2 ^ 31) (hi : i = nI k) (hk : k + 5 < L) (hca : ca + 8 ≤ 600000) (hsl : sl + 156 ≤ 7302249) (hw : lwW Γ s LC (cM Γ LC c0) LR (rM Γ LR x) H) (hI : CInv c0) (hRI : RInv x) (hTi : Tie3 c0 x) (hl : lv_has ls 4 [(3, .int i), (2, .ref (LR (.inl 0))), (1, .ref (LC (nm 0 0))), (0, .ref b)]) (kk : lwK p l e s m below meth c Q ls Γ b (LC (nm 0 0)) LR ca sl) : W p l e room_1 s m #[Value.ref b] below meth c H [] ca sl Q (F0 m 200 ls []) := by
  have hx := X.1.1
  have hb := X.1.2.1
  have hbA : ¬ (fun q => s.heap.size ≤ q) b := Nat.not_le.mpr hbl
  obtain ⟨n, h8, hnn, h3, h4, h5⟩ := id hRI
  refine lv_aload_n hx hb dL_law_200 rfl (lv_at hl 2 rfl) ?_
  refine lv_aload_n hx hb dL_law_201 rfl (lv_at hl 3 rfl) ?_
  refine lv_iload_n hx hb dL_law_202 rfl (lv_at hl 0 rfl) ?_
  refine lv_iconst (v := 1) hx hb dL_law_203 (by decide) ?_
  refine lv_iadd hx hb dL_law_204 ?_
  refine va_sld hx hb hX hbl hbA hw.S (lw_in (j := 1) hi rfl (by omega) hL) dL_law_205 ?_
  refine lv_aload_n hx hb dL_law_206 rfl (lv_at hl 3 rfl) ?_
  refine lv_iload_n hx hb dL_law_207 rfl (lv_at hl 0 rfl) ?_
  refine lv_iconst (v := 2) hx hb dL_law_208 (by decide) ?_
  refine lv_iadd hx hb dL_law_209 ?_
  refine va_sld hx hb hX hbl hbA hw.S (lw_in (j := 2) hi rfl (by omega) hL) dL_law_210 ?_
  refine lv_aload_n hx hb dL_law_211 rfl (lv_at hl 3 rfl) ?_
  refine lv_iload_n hx hb dL_law_212 rfl (lv_at hl 0 rfl) ?_
  refine lv_iconst (v := 3) hx hb dL_law_213 (by decide) ?_
  refine lv_iadd hx hb dL_law_214 ?_
  refine va_sld hx hb hX hbl hbA hw.S (lw_in (j := 3) hi rfl (by omega) hL) dL_law_215 ?_
  refine lv_aload_n hx hb dL_law_216 rfl (lv_at hl 3 rfl) ?_
  refine lv_iload_n hx hb dL_law_217 rfl (lv_at hl 0 rfl) ?_
  refine lv_iconst (v := 4) hx hb dL_law_218 (by decide) ?_
  refine lv_iadd hx hb dL_law_219 ?_
  refine va_sld hx hb hX hbl hbA hw.S (lw_in (j := 4) hi rfl (by omega) hL) dL_law_220 ?_
  refine lv_aload_n hx hb dL_law_221 rfl (lv_at hl 3 rfl) ?_
  refine lv_iload_n hx hb dL_law_222 rfl (lv_at hl 0 rfl) ?_
  refine lv_iconst (v := 5) hx hb dL_law_223 (by decide) ?_
  refine lv_iadd hx hb dL_law_224 ?_
  refine va_sld hx hb hX hbl hbA hw.S (lw_in (j := 5) hi rfl (by omega) hL) dL_law_225 ?_
  refine lw_callC (i := nm 0 0) (ci := 7) (As := [.int (xs (i + 1).toNatClampNeg), .int (xs (i + 2).toNatClampNeg), .int (xs (i + 3).toNatClampNeg), .int (xs (i + 4).toNatClampNeg), .int (xs (i + 5).toNatClampNeg)]) (rest := []) X hw (k_X9_handler Γ l LC c0 (xs (i + 1).toNatClampNeg) (xs (i + 2).toNatClampNeg) (xs (i + 3).toNatClampNeg) (xs (i + 4).toNatClampNeg) (xs (i + 5).toNatClampNeg) hI) rfl v_X9_handler ml_L_25 rfl rfl rfl rfl hl.1 ⟨Nat.le_of_ble_eq_true rfl, Nat.le_of_ble_eq_true rfl⟩ (Nat.le_of_ble_eq_true rfl) ⟨Nat.le_trans (show ca + 0 ≤ 600000 by omega) (Nat.le_of_ble_eq_true rfl), Nat.le_trans (show sl + 0 ≤ 7302249 by omega) (Nat.le_of_ble_eq_true rfl)⟩ dL_law_226 (fun v1 LC1 MC1 H1 hp1 hw => ?_)
  obtain ⟨c1, e1, hI1, hq1, hT1, hv1⟩ := tw_handler hI hTi hRI hnn h8 hp1
  subst e1
  refine lv_pop hx hb dL_law_229 rfl ?_
  refine lv_aload_n hx hb dL_law_230 rfl (lv_at hl 1 rfl) ?_
  refine lv_aload_n hx hb dL_law_231 rfl (lv_at hl 3 rfl) ?_
  refine lv_iload_n hx hb dL_law_232 rfl (lv_at hl 0 rfl) ?_
  refine lv_iconst (v := 1) hx hb dL_law_233 (by decide) ?_
  refine lv_iadd hx hb dL_law_234 ?_
  refine va_sld hx hb hX hbl hbA hw.S (lw_in (j := 1) hi rfl (by omega) hL) dL_law_235 ?_
  refine lv_aload_n hx hb dL_law_236 rfl (lv_at hl 3 rfl) ?_
  refine lv_iload_n hx hb dL_law_237 rfl (lv_at hl 0 rfl) ?_
  refine lv_iconst (v := 2) hx hb dL_law_238 (by decide) ?_
  refine lv_iadd hx hb dL_law_239 ?_
  refine va_sld hx hb hX hbl hbA hw.S (lw_in (j := 2) hi rfl (by omega) hL) dL_law_240 ?_
  refine lv_aload_n hx hb dL_law_241 rfl (lv_at hl 3 rfl) ?_
  refine lv_iload_n hx hb dL_law_242 rfl (lv_at hl 0 rfl) ?_
  refine lv_iconst (v := 3) hx hb dL_law_243 (by decide) ?_
  refine lv_iadd hx hb dL_law_244 ?_
  refine va_sld hx hb hX hbl hbA hw.S (lw_in (j := 3) hi rfl (by omega) hL) dL_law_245 ?_
  refine lv_aload_n hx hb dL_law_246 rfl (lv_at hl 3 rfl) ?_
  refine lv_iload_n hx hb dL_law_247 rfl (lv_at hl 0 rfl) ?_
  refine lv_iconst (v := 4) hx hb dL_law_248 (by decide) ?_
  refine lv_iadd hx hb dL_law_249 ?_
  refine va_sld hx hb hX hbl hbA hw.S (lw_in (j := 4) hi rfl (by omega) hL) dL_law_250 ?_
  refine lv_aload_n hx hb dL_law_251 rfl (lv_at hl 3 rfl) ?_
  refine lv_iload_n hx hb dL_law_252 rfl (lv_at hl 0 rfl) ?_
  refine lv_iconst (v := 5) hx hb dL_law_253 (by decide) ?_
  refine lv_iadd hx hb dL_law_254 ?_
  refine va_sld hx hb hX hbl hbA hw.S (lw_in (j := 5) hi rfl (by omega) hL) dL_law_255 ?_
  refine lw_callR (i := .inl 0) (ci := 8) (As := [.int (xs (i + 1).toNatClampNeg), .int (xs (i + 2).toNatClampNeg), .int (xs (i + 3).toNatClampNeg), .int (xs (i + 4).toNatClampNeg), .int (xs (i + 5).toNatClampNeg)]) (rest := []) X hw (k_X10_handler Γ l LR x (xs (i + 1).toNatClampNeg) (xs (i + 2).toNatClampNeg) (xs (i + 3).toNatClampNeg) (xs (i + 4).toNatClampNeg) (xs (i + 5).toNatClampNeg) n hnn h8 (hN x) (fun k hk => (h3 k hk).2.2.1) (fun k hk => (h3 k hk).2.2.2.1)) rfl v_X10_handler ml_L_29 rfl rfl rfl rfl hl.1 ⟨Nat.le_of_ble_eq_true rfl, Nat.le_of_ble_eq_true rfl⟩ (Nat.le_of_ble_eq_true rfl) ⟨Nat.le_trans (show ca + 0 + 0 ≤ 600000 by omega) (Nat.le_of_ble_eq_true rfl), Nat.le_trans (show sl + 0 + 0 ≤ 7302249 by omega) (Nat.le_of_ble_eq_true rfl)⟩ dL_law_256 (fun v2 LR1 MR1 H2 hp2 hw => ?_)
  obtain ⟨hv2, e1, e2⟩ := hp2
  subst e1; subst e2
  have hR1 := @RI_handler x n (xs (i + 1).toNatClampNeg) (xs (i + 2).toNatClampNeg) (xs (i + 3).toNatClampNeg) (xs (i + 4).toNatClampNeg) (xs (i + 5).toNatClampNeg) hRI h8
  refine lv_pop hx hb dL_law_259 rfl ?_
  refine lv_goto (tgt := 642) hx hb dL_law_260 (by decide) ?_
  exact W.widen (k := ca + 8) (n := sl + 156) (show ca + 0 + 0 ≤ ca + 8 by omega) (show sl + 0 + 0 ≤ sl + 156 by omega) (kk _ _ _ _ hw hI1 hR1 hq1 hT1)
set_option maxHeartbeats 4000000 in
set_option maxRecDepth 100000 in
theorem lw_case3 (X : mX Γ p m c code 4 s #[Value.ref b] RL (fun q => s.heap.size ≤ q)) (hX : va_X b L xs s s.heap) (hbl : b < s.heap.size) (hL : L < 2 ^ 31) (hi : i = nI k) (hk : k + 5 < L) (hca : ca + 8 ≤ 600000) (hsl : sl + 156 ≤ 7302249) (hw : lwW Γ s LC (cM Γ LC c0) LR (rM Γ LR x) H) (hI : CInv c0) (hRI : RInv x) (hTi : Tie3 c0 x) (hl : lv_has ls 4 [(3, .int i), (2, .ref (LR (.inl 0))), (1, .ref (LC (nm 0 0))), (0, .ref b)]) (kk : lwK p l e s m below meth c Q ls Γ b (LC (nm 0 0)) LR ca sl) : W p l e room_1 s m #[Value.ref b] below meth c H [] ca sl Q (F0 m 263 ls []) := by
  have hx := X.1.1
  have hb := X.1.2.1
  have hbA : ¬ (fun q => s.heap.size ≤ q) b := Nat.not_le.mpr hbl
  obtain ⟨n, h8, hnn, h3, h4, h5⟩ := id hRI
  refine lv_aload_n hx hb dL_law_263 rfl (lv_at hl 2 rfl) ?_
  refine lv_aload_n hx hb dL_law_264 rfl (lv_at hl 3 rfl) ?_
  refine lv_iload_n hx hb dL_law_265 rfl (lv_at hl 0 rfl) ?_
  refine lv_iconst (v := 1) hx hb dL_law_266 (by decide) ?_
  refine lv_iadd hx hb dL_law_267 ?_
  refine va_sld hx hb hX hbl hbA hw.S (lw_in (j := 1) hi rfl (by omega) hL) dL_law_268 ?_
  refine lv_aload_n hx hb dL_law_269 rfl (lv_at hl 3 rfl) ?_
  refine lv_iload_n hx hb dL_law_270 rfl (lv_at hl 0 rfl) ?_
  refine lv_iconst (v := 2) hx hb dL_law_271 (by decide) ?_
  refine lv_iadd hx hb dL_law_272 ?_
  refine va_sld hx hb hX hbl hbA hw.S (lw_in (j := 2) hi rfl (by omega) hL) dL_law_273 ?_
  refine lv_aload_n hx hb dL_law_274 rfl (lv_at hl 3 rfl) ?_
  refine lv_iload_n hx hb dL_law_275 rfl (lv_at hl 0 rfl) ?_
  refine lv_iconst (v := 3) hx hb dL_law_276 (by decide) ?_
  refine lv_iadd hx hb dL_law_277 ?_
  refine va_sld hx hb hX hbl hbA hw.S (lw_in (j := 3) hi rfl (by omega) hL) dL_law_278 ?_
  refine lw_callC (i := nm 0 0) (ci := 7) (As := [.int (xs (i + 1).toNatClampNeg), .int (xs (i + 2).toNatClampNeg), .int (xs (i + 3).toNatClampNeg)]) (rest := []) X hw (k_X9_frame Γ l LC c0 (xs (i + 1).toNatClampNeg) (xs (i + 2).toNatClampNeg) (xs (i + 3).toNatClampNeg) hI) rfl v_X9_frame ml_L_30 rfl rfl rfl rfl hl.1 ⟨Nat.le_of_ble_eq_true rfl, Nat.le_of_ble_eq_true rfl⟩ (Nat.le_of_ble_eq_true rfl) ⟨Nat.le_trans (show ca + 2 ≤ 600000 by omega) (Nat.le_of_ble_eq_true rfl), Nat.le_trans (show sl + 18 ≤ 7302249 by omega) (Nat.le_of_ble_eq_true rfl)⟩ dL_law_279 (fun v1 LC1 MC1 H1 hp1 hw => ?_)
  obtain ⟨c1, e1, hI1, hq1, hT1, hv1⟩ := tw_frame hI hTi hnn h8 hp1
  subst e1
  refine lv_pop hx hb dL_law_282 rfl ?_
  refine lv_aload_n hx hb dL_law_283 rfl (lv_at hl 1 rfl) ?_
  refine lv_aload_n hx hb dL_law_284 rfl (lv_at hl 3 rfl) ?_
  refine lv_iload_n hx hb dL_law_285 rfl (lv_at hl 0 rfl) ?_
  refine lv_iconst (v := 1) hx hb dL_law_286 (by decide) ?_
  refine lv_iadd hx hb dL_law_287 ?_
  refine va_sld hx hb hX hbl hbA hw.S (lw_in (j := 1) hi rfl (by omega) hL) dL_law_288 ?_
  refine lv_aload_n hx hb dL_law_289 rfl (lv_at hl 3 rfl) ?_
  refine lv_iload_n hx hb dL_law_290 rfl (lv_at hl 0 rfl) ?_
  refine lv_iconst (v := 2) hx hb dL_law_291 (by decide) ?_
  refine lv_iadd hx hb dL_law_292 ?_
  refine va_sld hx hb hX hbl hbA hw.S (lw_in (j := 2) hi rfl (by omega) hL) dL_law_293 ?_
  refine lv_aload_n hx hb dL_law_294 rfl (lv_at hl 3 rfl) ?_
  refine lv_iload_n hx hb dL_law_295 rfl (lv_at hl 0 rfl) ?_
  refine lv_iconst (v := 3) hx hb dL_law_296 (by decide) ?_
  refine lv_iadd hx hb dL_law_297 ?_
  refine va_sld hx hb hX hbl hbA hw.S (lw_in (j := 3) hi rfl (by omega) hL) dL_law_298 ?_
  refine lw_callR (i := .inl 0) (ci := 8) (As := [.int (xs (i + 1).toNatClampNeg), .int (xs (i + 2).toNatClampNeg), .int (xs (i + 3).toNatClampNeg)]) (rest := []) X hw (k_X10_frame Γ l LR x (xs (i + 1).toNatClampNeg) (xs (i + 2).toNatClampNeg) (xs (i + 3).toNatClampNeg) n hnn h8) rfl v_X10_frame ml_L_34 rfl rfl rfl rfl hl.1 ⟨Nat.le_of_ble_eq_true rfl, Nat.le_of_ble_eq_true rfl⟩ (Nat.le_of_ble_eq_true rfl) ⟨Nat.le_trans (show ca + 2 + 0 ≤ 600000 by omega) (Nat.le_of_ble_eq_true rfl), Nat.le_trans (show sl + 18 + 0 ≤ 7302249 by omega) (Nat.le_of_ble_eq_true rfl)⟩ dL_law_299 (fun v2 LR1 MR1 H2 hp2 hw => ?_)
  obtain ⟨hv2, e1, e2⟩ := hp2
  subst e1; subst e2
  have hR1 := @RI_frame x n (xs (i + 1).toNatClampNeg) (xs (i + 2).toNatClampNeg) (xs (i + 3).toNatClampNeg) hRI h8
  refine lv_pop hx hb dL_law_302 rfl ?_
  refine lv_goto (tgt := 642) hx hb dL_law_303 (by decide) ?_
  exact W.widen (k := ca + 8) (n := sl + 156) (show ca + 2 + 0 ≤ ca + 8 by omega) (show sl + 18 + 0 ≤ sl + 156 by omega) (kk _ _ _ _ hw hI1 hR1 hq1 hT1)
set_option maxHeartbeats 4000000 in
set_option maxRecDepth 100000 in
theorem lw_case4 (X : mX Γ p m c code 4 s #[Value.ref b] RL (fun q => s.heap.size ≤ q)) (hX : va_X b L xs s s.heap) (hbl : b < s.heap.size) (hL : L < 2 ^ 31) (hi : i = nI k) (hk : k + 5 < L) (hca : ca + 8 ≤ 600000) (hsl : sl + 156 ≤ 7302249) (hw : lwW Γ s LC (cM Γ LC c0) LR (rM Γ LR x) H) (hI : CInv c0) (hRI : RInv x) (hTi : Tie3 c0 x) (hl : lv_has ls 4 [(3, .int i), (2, .ref (LR (.inl 0))), (1, .ref (LC (nm 0 0))), (0, .ref b)]) (kk : lwK p l e s m below meth c Q ls Γ b (LC (nm 0 0)) LR ca sl) : W p l e room_1 s m #[Value.ref b] below meth c H [] ca sl Q (F0 m 306 ls []) := by
  have hx := X.1.1
  have hb := X.1.2.1
  have hbA : ¬ (fun q => s.heap.size ≤ q) b := Nat.not_le.mpr hbl
  obtain ⟨n, h8, hnn, h3, h4, h5⟩ := id hRI
  refine lv_aload_n hx hb dL_law_306 rfl (lv_at hl 2 rfl) ?_
  refine lv_aload_n hx hb dL_law_307 rfl (lv_at hl 3 rfl) ?_
  refine lv_iload_n hx hb dL_law_308 rfl (lv_at hl 0 rfl) ?_
  refine lv_iconst (v := 1) hx hb dL_law_309 (by decide) ?_
  refine lv_iadd hx hb dL_law_310 ?_
  refine va_sld hx hb hX hbl hbA hw.S (lw_in (j := 1) hi rfl (by omega) hL) dL_law_311 ?_
  refine lv_aload_n hx hb dL_law_312 rfl (lv_at hl 3 rfl) ?_
  refine lv_iload_n hx hb dL_law_313 rfl (lv_at hl 0 rfl) ?_
  refine lv_iconst (v := 2) hx hb dL_law_314 (by decide) ?_
  refine lv_iadd hx hb dL_law_315 ?_
  refine va_sld hx hb hX hbl hbA hw.S (lw_in (j := 2) hi rfl (by omega) hL) dL_law_316 ?_
  refine lv_aload_n hx hb dL_law_317 rfl (lv_at hl 3 rfl) ?_
  refine lv_iload_n hx hb dL_law_318 rfl (lv_at hl 0 rfl) ?_
  refine lv_iconst (v := 3) hx hb dL_law_319 (by decide) ?_
  refine lv_iadd hx hb dL_law_320 ?_
  refine va_sld hx hb hX hbl hbA hw.S (lw_in (j := 3) hi rfl (by omega) hL) dL_law_321 ?_
  refine lv_aload_n hx hb dL_law_322 rfl (lv_at hl 3 rfl) ?_
  refine lv_iload_n hx hb dL_law_323 rfl (lv_at hl 0 rfl) ?_
  refine lv_iconst (v := 4) hx hb dL_law_324 (by decide) ?_
  refine lv_iadd hx hb dL_law_325 ?_
  refine va_sld hx hb hX hbl hbA hw.S (lw_in (j := 4) hi rfl (by omega) hL) dL_law_326 ?_
  refine lw_callC (i := nm 0 0) (ci := 7) (As := [.int (xs (i + 1).toNatClampNeg), .int (xs (i + 2).toNatClampNeg), .int (xs (i + 3).toNatClampNeg), .int (xs (i + 4).toNatClampNeg)]) (rest := []) X hw (k_X9_set Γ l LC c0 (xs (i + 1).toNatClampNeg) (xs (i + 2).toNatClampNeg) (xs (i + 3).toNatClampNeg) (xs (i + 4).toNatClampNeg) hI) rfl v_X9_set ml_L_35 rfl rfl rfl rfl hl.1 ⟨Nat.le_of_ble_eq_true rfl, Nat.le_of_ble_eq_true rfl⟩ (Nat.le_of_ble_eq_true rfl) ⟨Nat.le_trans (show ca + 0 ≤ 600000 by omega) (Nat.le_of_ble_eq_true rfl), Nat.le_trans (show sl + 0 ≤ 7302249 by omega) (Nat.le_of_ble_eq_true rfl)⟩ dL_law_327 (fun v1 LC1 MC1 H1 hp1 hw => ?_)
  obtain ⟨c1, e1, hI1, hq1, hT1, hv1⟩ := tw_set hI hTi hnn h8 hp1
  subst e1
  refine lv_pop hx hb dL_law_330 rfl ?_
  refine lv_aload_n hx hb dL_law_331 rfl (lv_at hl 1 rfl) ?_
  refine lv_aload_n hx hb dL_law_332 rfl (lv_at hl 3 rfl) ?_
  refine lv_iload_n hx hb dL_law_333 rfl (lv_at hl 0 rfl) ?_
  refine lv_iconst (v := 1) hx hb dL_law_334 (by decide) ?_
  refine lv_iadd hx hb dL_law_335 ?_
  refine va_sld hx hb hX hbl hbA hw.S (lw_in (j := 1) hi rfl (by omega) hL) dL_law_336 ?_
  refine lv_aload_n hx hb dL_law_337 rfl (lv_at hl 3 rfl) ?_
  refine lv_iload_n hx hb dL_law_338 rfl (lv_at hl 0 rfl) ?_
  refine lv_iconst (v := 2) hx hb dL_law_339 (by decide) ?_
  refine lv_iadd hx hb dL_law_340 ?_
  refine va_sld hx hb hX hbl hbA hw.S (lw_in (j := 2) hi rfl (by omega) hL) dL_law_341 ?_
  refine lv_aload_n hx hb dL_law_342 rfl (lv_at hl 3 rfl) ?_
  refine lv_iload_n hx hb dL_law_343 rfl (lv_at hl 0 rfl) ?_
  refine lv_iconst (v := 3) hx hb dL_law_344 (by decide) ?_
  refine lv_iadd hx hb dL_law_345 ?_
  refine va_sld hx hb hX hbl hbA hw.S (lw_in (j := 3) hi rfl (by omega) hL) dL_law_346 ?_
  refine lv_aload_n hx hb dL_law_347 rfl (lv_at hl 3 rfl) ?_
  refine lv_iload_n hx hb dL_law_348 rfl (lv_at hl 0 rfl) ?_
  refine lv_iconst (v := 4) hx hb dL_law_349 (by decide) ?_
  refine lv_iadd hx hb dL_law_350 ?_
  refine va_sld hx hb hX hbl hbA hw.S (lw_in (j := 4) hi rfl (by omega) hL) dL_law_351 ?_
  refine lw_callR (i := .inl 0) (ci := 8) (As := [.int (xs (i + 1).toNatClampNeg), .int (xs (i + 2).toNatClampNeg), .int (xs (i + 3).toNatClampNeg), .int (xs (i + 4).toNatClampNeg)]) (rest := []) X hw (k_X10_set Γ l LR x (xs (i + 1).toNatClampNeg) (xs (i + 2).toNatClampNeg) (xs (i + 3).toNatClampNeg) (xs (i + 4).toNatClampNeg) n hnn h8 (h3 0 (by decide)).2.2.2.2.2.2) rfl v_X10_set ml_L_39 rfl rfl rfl rfl hl.1 ⟨Nat.le_of_ble_eq_true rfl, Nat.le_of_ble_eq_true rfl⟩ (Nat.le_of_ble_eq_true rfl) ⟨Nat.le_trans (show ca + 0 + 0 ≤ 600000 by omega) (Nat.le_of_ble_eq_true rfl), Nat.le_trans (show sl + 0 + 0 ≤ 7302249 by omega) (Nat.le_of_ble_eq_true rfl)⟩ dL_law_352 (fun v2 LR1 MR1 H2 hp2 hw => ?_)
  obtain ⟨hv2, e1, e2⟩ := hp2
  subst e1; subst e2
  have hR1 := @RI_set x n (xs (i + 1).toNatClampNeg) (xs (i + 2).toNatClampNeg) (xs (i + 3).toNatClampNeg) (xs (i + 4).toNatClampNeg) hRI h8
  refine lv_pop hx hb dL_law_355 rfl ?_
  refine lv_goto (tgt := 642) hx hb dL_law_356 (by decide) ?_
  exact W.widen (k := ca + 8) (n := sl + 156) (show ca + 0 + 0 ≤ ca + 8 by omega) (show sl + 0 + 0 ≤ sl + 156 by omega) (kk _ _ _ _ hw hI1 hR1 hq1 hT1)
set_option maxHeartbeats 4000000 in
set_option maxRecDepth 100000 in
theorem lw_case5 (X : mX Γ p m c code 4 s #[Value.ref b] RL (fun q => s.heap.size ≤ q)) (hX : va_X b L xs s s.heap) (hbl : b < s.heap.size) (hL : L < 2 ^ 31) (hi : i = nI k) (hk : k + 5 < L) (hca : ca + 8 ≤ 600000) (hsl : sl + 156 ≤ 7302249) (hw : lwW Γ s LC (cM Γ LC c0) LR (rM Γ LR x) H) (hI : CInv c0) (hRI : RInv x) (hTi : Tie3 c0 x) (hl : lv_has ls 4 [(3, .int i), (2, .ref (LR (.inl 0))), (1, .ref (LC (nm 0 0))), (0, .ref b)]) (kk : lwK p l e s m below meth c Q ls Γ b (LC (nm 0 0)) LR ca sl) : W p l e room_1 s m #[Value.ref b] below meth c H [] ca sl Q (F0 m 359 ls []) := by
  have hx := X.1.1
  have hb := X.1.2.1
  have hbA : ¬ (fun q => s.heap.size ≤ q) b := Nat.not_le.mpr hbl
  obtain ⟨n, h8, hnn, h3, h4, h5⟩ := id hRI
  refine lv_aload_n hx hb dL_law_359 rfl (lv_at hl 2 rfl) ?_
  refine lv_aload_n hx hb dL_law_360 rfl (lv_at hl 3 rfl) ?_
  refine lv_iload_n hx hb dL_law_361 rfl (lv_at hl 0 rfl) ?_
  refine lv_iconst (v := 1) hx hb dL_law_362 (by decide) ?_
  refine lv_iadd hx hb dL_law_363 ?_
  refine va_sld hx hb hX hbl hbA hw.S (lw_in (j := 1) hi rfl (by omega) hL) dL_law_364 ?_
  refine lw_callC (i := nm 0 0) (ci := 7) (As := [.int (xs (i + 1).toNatClampNeg)]) (rest := []) X hw (k_X9_judge Γ l LC c0 (xs (i + 1).toNatClampNeg) hI) rfl v_X9_judge ml_L_40 rfl rfl rfl rfl hl.1 ⟨Nat.le_of_ble_eq_true rfl, Nat.le_of_ble_eq_true rfl⟩ (Nat.le_of_ble_eq_true rfl) ⟨Nat.le_trans (show ca + 0 ≤ 600000 by omega) (Nat.le_of_ble_eq_true rfl), Nat.le_trans (show sl + 0 ≤ 7302249 by omega) (Nat.le_of_ble_eq_true rfl)⟩ dL_law_365 (fun v1 LC1 MC1 H1 hp1 hw => ?_)
  obtain ⟨c1, e1, hI1, hq1, hk1⟩ := cv_kp hp1
  subst e1
  refine lv_pop hx hb dL_law_368 rfl ?_
  refine lv_aload_n hx hb dL_law_369 rfl (lv_at hl 1 rfl) ?_
  refine lv_aload_n hx hb dL_law_370 rfl (lv_at hl 3 rfl) ?_
  refine lv_iload_n hx hb dL_law_371 rfl (lv_at hl 0 rfl) ?_
  refine lv_iconst (v := 1) hx hb dL_law_372 (by decide) ?_
  refine lv_iadd hx hb dL_law_373 ?_
  refine va_sld hx hb hX hbl hbA hw.S (lw_in (j := 1) hi rfl (by omega) hL) dL_law_374 ?_
  obtain ⟨dd, hdd⟩ := any_nI (x.1 15)
  have hs := sH_self (x := x) (q := (x.2.1 14, dd)) hdd rfl
  have hw : lwW Γ s LC1 (cM Γ LC1 c1) LR (rM Γ LR (sH x (x.2.1 14, dd))) H1 := by rw [hs]; exact hw
  refine lw_callR (i := .inl 0) (ci := 8) (As := [.int (xs (i + 1).toNatClampNeg)]) (rest := []) X hw (k_X10_judge Γ l LR x (x.2.1 14) dd (xs (i + 1).toNatClampNeg) n (oM x) (hN x) (hF x) (hT x) (hA x) (hW x) (pM x) hnn h8 (fun k hk => h3 k (by omega))) rfl v_X10_judge ml_L_43 rfl rfl rfl rfl hl.1 ⟨Nat.le_of_ble_eq_true rfl, Nat.le_of_ble_eq_true rfl⟩ (Nat.le_of_ble_eq_true rfl) ⟨Nat.le_trans (show ca + 0 + 0 ≤ 600000 by omega) (Nat.le_of_ble_eq_true rfl), Nat.le_trans (show sl + 0 + 0 ≤ 7302249 by omega) (Nat.le_of_ble_eq_true rfl)⟩ dL_law_375 (fun v2 LR1 MR1 H2 hp2 hw => ?_)
  rcases hp2 with ⟨-, -, e1, e2⟩ | ⟨hM9, q9, -, e1, e2⟩
  · subst e1; subst e2
    have hR1 : RInv (sH x (x.2.1 14, dd)) := by rw [hs]; exact hRI
    have hT1 : Tie3 c1 (sH x (x.2.1 14, dd)) := ⟨⟨hTi.1.1.keep hk1.o keep_sH.1 keep_sH.2, hTi.1.2.keep hk1.o keep_sH.2 rfl⟩, hk1.r5.trans (hTi.2.trans sH_13.symm)⟩
    refine lv_pop hx hb dL_law_378 rfl ?_
    refine lv_goto (tgt := 642) hx hb dL_law_379 (by decide) ?_
    exact W.widen (k := ca + 8) (n := sl + 156) (show ca + 0 + 0 ≤ ca + 8 by omega) (show sl + 0 + 0 ≤ sl + 156 by omega) (kk _ _ _ _ hw hI1 hR1 hq1 hT1)
  · subst e1; subst e2
    have hk9 : ((xs (i + 1).toNatClampNeg)).toNatClampNeg < n := by obtain ⟨k9, h9, e9⟩ := isM_nat hM9; rw [e9, nI_clamp (by omega)]; exact h9
    have hR1 : RInv _ := RI_judge (q := q9) (h := x.2.1 14) hRI hnn h8 hk9
    have hj9 := keep_judge (q := q9) (h := x.2.1 14) hRI hnn h8 hk9
    have hT1 : Tie3 c1 _ := ⟨⟨hTi.1.1.keep hk1.o hj9.1 hj9.2, hTi.1.2.keep hk1.o hj9.2 (congrFun (keep_j4 (q := q9) (h := x.2.1 14) hRI hnn h8 hk9) 4)⟩, hk1.r5.trans (hTi.2.trans (keep_j13 (q := q9) (h := x.2.1 14) hRI hnn h8 hk9).symm)⟩
    refine lv_pop hx hb dL_law_378 rfl ?_
    refine lv_goto (tgt := 642) hx hb dL_law_379 (by decide) ?_
    exact W.widen (k := ca + 8) (n := sl + 156) (show ca + 0 + 0 ≤ ca + 8 by omega) (show sl + 0 + 0 ≤ sl + 156 by omega) (kk _ _ _ _ hw hI1 hR1 hq1 hT1)
set_option maxHeartbeats 4000000 in
set_option maxRecDepth 100000 in
theorem lw_case6 (X : mX Γ p m c code 4 s #[Value.ref b] RL (fun q => s.heap.size ≤ q)) (hX : va_X b L xs s s.heap) (hbl : b < s.heap.size) (hL : L < 2 ^ 31) (hi : i = nI k) (hk : k + 5 < L) (hca : ca + 8 ≤ 600000) (hsl : sl + 156 ≤ 7302249) (hw : lwW Γ s LC (cM Γ LC c0) LR (rM Γ LR x) H) (hI : CInv c0) (hRI : RInv x) (hTi : Tie3 c0 x) (hl : lv_has ls 4 [(3, .int i), (2, .ref (LR (.inl 0))), (1, .ref (LC (nm 0 0))), (0, .ref b)]) (kk : lwK p l e s m below meth c Q ls Γ b (LC (nm 0 0)) LR ca sl) : W p l e room_1 s m #[Value.ref b] below meth c H [] ca sl Q (F0 m 382 ls []) := by
  have hx := X.1.1
  have hb := X.1.2.1
  have hbA : ¬ (fun q => s.heap.size ≤ q) b := Nat.not_le.mpr hbl
  obtain ⟨n, h8, hnn, h3, h4, h5⟩ := id hRI
  refine lv_aload_n hx hb dL_law_382 rfl (lv_at hl 2 rfl) ?_
  refine lv_aload_n hx hb dL_law_383 rfl (lv_at hl 3 rfl) ?_
  refine lv_iload_n hx hb dL_law_384 rfl (lv_at hl 0 rfl) ?_
  refine lv_iconst (v := 1) hx hb dL_law_385 (by decide) ?_
  refine lv_iadd hx hb dL_law_386 ?_
  refine va_sld hx hb hX hbl hbA hw.S (lw_in (j := 1) hi rfl (by omega) hL) dL_law_387 ?_
  refine lw_callC (i := nm 0 0) (ci := 7) (As := [.int (xs (i + 1).toNatClampNeg)]) (rest := []) X hw (k_F9_join Γ l LC c0 x (x.2.1 14) (xs (i + 1).toNatClampNeg) hI hRI hTi.1) rfl v_X9_join ml_L_44 rfl rfl rfl rfl hl.1 ⟨Nat.le_of_ble_eq_true rfl, Nat.le_of_ble_eq_true rfl⟩ (Nat.le_of_ble_eq_true rfl) ⟨Nat.le_trans (show ca + 0 ≤ 600000 by omega) (Nat.le_of_ble_eq_true rfl), Nat.le_trans (show sl + 0 ≤ 7302249 by omega) (Nat.le_of_ble_eq_true rfl)⟩ dL_law_388 (fun v1 LC1 MC1 H1 hp1 hw => ?_)
  obtain ⟨e0, c1, e1, hI1, hk1, hj5⟩ := hp1
  subst e0; subst e1
  have hq1 : LC1 (nm 0 0) = LC1 (nm 0 0) := rfl
  refine lv_pop hx hb dL_law_391 rfl ?_
  refine lv_aload_n hx hb dL_law_392 rfl (lv_at hl 1 rfl) ?_
  refine lv_aload_n hx hb dL_law_393 rfl (lv_at hl 3 rfl) ?_
  refine lv_iload_n hx hb dL_law_394 rfl (lv_at hl 0 rfl) ?_
  refine lv_iconst (v := 1) hx hb dL_law_395 (by decide) ?_
  refine lv_iadd hx hb dL_law_396 ?_
  refine va_sld hx hb hX hbl hbA hw.S (lw_in (j := 1) hi rfl (by omega) hL) dL_law_397 ?_
  obtain ⟨dd, hdd⟩ := any_nI (x.1 15)
  have hs := sH_self (x := x) (q := (x.2.1 14, dd)) hdd rfl
  have hw : lwW Γ s LC1 (cM Γ LC1 c1) LR (rM Γ LR (sH x (x.2.1 14, dd))) H1 := by rw [hs]; exact hw
  refine lw_callR (i := .inl 0) (ci := 8) (As := [.int (xs (i + 1).toNatClampNeg)]) (rest := []) X hw (k_X10_join Γ l LR x (x.2.1 14) dd (xs (i + 1).toNatClampNeg) hRI (by rw [hs]; exact hRI)) rfl v_X10_join ml_L_47 rfl rfl rfl rfl hl.1 ⟨Nat.le_of_ble_eq_true rfl, Nat.le_of_ble_eq_true rfl⟩ (Nat.le_of_ble_eq_true rfl) ⟨Nat.le_trans (show ca + 0 + 0 ≤ 600000 by omega) (Nat.le_of_ble_eq_true rfl), Nat.le_trans (show sl + 0 + 0 ≤ 7302249 by omega) (Nat.le_of_ble_eq_true rfl)⟩ dL_law_398 (fun v2 LR1 MR1 H2 hp2 hw => ?_)
  obtain ⟨y9, e1, e2, hR1, hj1, hj2, hj3, n9, hn9, hnn9, hj4⟩ := hp2
  subst e1; subst e2
  have hje := join_eq (hTi.1.1.n hI hnn9 hn9) hn9 hj5 hj4
  have hT1 : Tie3 c1 y9 := ⟨⟨hTi.1.1.keep hk1 hj1 hj2, hTi.1.2.keep hk1 hj2 (congrFun hj3 4)⟩, hje.2 hTi.2⟩
  refine lv_pop hx hb dL_law_401 rfl ?_
  refine lv_goto (tgt := 642) hx hb dL_law_402 (by decide) ?_
  exact W.widen (k := ca + 8) (n := sl + 156) (show ca + 0 + 0 ≤ ca + 8 by omega) (show sl + 0 + 0 ≤ sl + 156 by omega) (kk _ _ _ _ hw hI1 hR1 hq1 hT1)
set_option maxHeartbeats 4000000 in
set_option maxRecDepth 100000 in
theorem lw_case7 (X : mX Γ p m c code 4 s #[Value.ref b] RL (fun q => s.heap.size ≤ q)) (hX : va_X b L xs s s.heap) (hbl : b < s.heap.size) (hL : L < 2 ^ 31) (hi : i = nI k) (hk : k + 5 < L) (hca : ca + 8 ≤ 600000) (hsl : sl + 156 ≤ 7302249) (hw : lwW Γ s LC (cM Γ LC c0) LR (rM Γ LR x) H) (hI : CInv c0) (hRI : RInv x) (hTi : Tie3 c0 x) (hl : lv_has ls 4 [(3, .int i), (2, .ref (LR (.inl 0))), (1, .ref (LC (nm 0 0))), (0, .ref b)]) (kk : lwK p l e s m below meth c Q ls Γ b (LC (nm 0 0)) LR ca sl) : W p l e room_1 s m #[Value.ref b] below meth c H [] ca sl Q (F0 m 405 ls []) := by
  have hx := X.1.1
  have hb := X.1.2.1
  have hbA : ¬ (fun q => s.heap.size ≤ q) b := Nat.not_le.mpr hbl
  obtain ⟨n, h8, hnn, h3, h4, h5⟩ := id hRI
  refine lv_aload_n hx hb dL_law_405 rfl (lv_at hl 2 rfl) ?_
  refine lv_aload_n hx hb dL_law_406 rfl (lv_at hl 3 rfl) ?_
  refine lv_iload_n hx hb dL_law_407 rfl (lv_at hl 0 rfl) ?_
  refine lv_iconst (v := 1) hx hb dL_law_408 (by decide) ?_
  refine lv_iadd hx hb dL_law_409 ?_
  refine va_sld hx hb hX hbl hbA hw.S (lw_in (j := 1) hi rfl (by omega) hL) dL_law_410 ?_
  refine lv_aload_n hx hb dL_law_411 rfl (lv_at hl 3 rfl) ?_
  refine lv_iload_n hx hb dL_law_412 rfl (lv_at hl 0 rfl) ?_
  refine lv_iconst (v := 2) hx hb dL_law_413 (by decide) ?_
  refine lv_iadd hx hb dL_law_414 ?_
  refine va_sld hx hb hX hbl hbA hw.S (lw_in (j := 2) hi rfl (by omega) hL) dL_law_415 ?_
  refine lw_callC (i := nm 0 0) (ci := 7) (As := [.int (xs (i + 1).toNatClampNeg), .int (xs (i + 2).toNatClampNeg)]) (rest := []) X hw (k_X9_kind Γ l LC c0 (xs (i + 1).toNatClampNeg) (xs (i + 2).toNatClampNeg) hI) rfl v_X9_kind ml_L_48 rfl rfl rfl rfl hl.1 ⟨Nat.le_of_ble_eq_true rfl, Nat.le_of_ble_eq_true rfl⟩ (Nat.le_of_ble_eq_true rfl) ⟨Nat.le_trans (show ca + 0 ≤ 600000 by omega) (Nat.le_of_ble_eq_true rfl), Nat.le_trans (show sl + 0 ≤ 7302249 by omega) (Nat.le_of_ble_eq_true rfl)⟩ dL_law_416 (fun v1 LC1 MC1 H1 hp1 hw => ?_)
  obtain ⟨c1, e1, hI1, hq1, hT1⟩ := cv_id hI hTi hp1
  subst e1
  refine lv_pop hx hb dL_law_419 rfl ?_
  refine lv_aload_n hx hb dL_law_420 rfl (lv_at hl 1 rfl) ?_
  refine lv_aload_n hx hb dL_law_421 rfl (lv_at hl 3 rfl) ?_
  refine lv_iload_n hx hb dL_law_422 rfl (lv_at hl 0 rfl) ?_
  refine lv_iconst (v := 1) hx hb dL_law_423 (by decide) ?_
  refine lv_iadd hx hb dL_law_424 ?_
  refine va_sld hx hb hX hbl hbA hw.S (lw_in (j := 1) hi rfl (by omega) hL) dL_law_425 ?_
  refine lv_aload_n hx hb dL_law_426 rfl (lv_at hl 3 rfl) ?_
  refine lv_iload_n hx hb dL_law_427 rfl (lv_at hl 0 rfl) ?_
  refine lv_iconst (v := 2) hx hb dL_law_428 (by decide) ?_
  refine lv_iadd hx hb dL_law_429 ?_
  refine va_sld hx hb hX hbl hbA hw.S (lw_in (j := 2) hi rfl (by omega) hL) dL_law_430 ?_
  refine lw_callR (i := .inl 0) (ci := 8) (As := [.int (xs (i + 1).toNatClampNeg), .int (xs (i + 2).toNatClampNeg)]) (rest := []) X hw (k_X10_kind Γ l LR x (xs (i + 1).toNatClampNeg) (xs (i + 2).toNatClampNeg) h5) rfl v_X10_kind ml_L_52 rfl rfl rfl rfl hl.1 ⟨Nat.le_of_ble_eq_true rfl, Nat.le_of_ble_eq_true rfl⟩ (Nat.le_of_ble_eq_true rfl) ⟨Nat.le_trans (show ca + 0 + 0 ≤ 600000 by omega) (Nat.le_of_ble_eq_true rfl), Nat.le_trans (show sl + 0 + 0 ≤ 7302249 by omega) (Nat.le_of_ble_eq_true rfl)⟩ dL_law_431 (fun v2 LR1 MR1 H2 hp2 hw => ?_)
  obtain ⟨hv2, e1, e2⟩ := hp2
  subst e1; subst e2
  have hR1 := hRI
  refine lv_pop hx hb dL_law_434 rfl ?_
  refine lv_goto (tgt := 642) hx hb dL_law_435 (by decide) ?_
  exact W.widen (k := ca + 8) (n := sl + 156) (show ca + 0 + 0 ≤ ca + 8 by omega) (show sl + 0 + 0 ≤ sl + 156 by omega) (kk _ _ _ _ hw hI1 hR1 hq1 hT1)
set_option maxHeartbeats 4000000 in
set_option maxRecDepth 100000 in
theorem lw_case8 (X : mX Γ p m c code 4 s #[Value.ref b] RL (fun q => s.heap.size ≤ q)) (hX : va_X b L xs s s.heap) (hbl : b < s.heap.size) (hL : L < 2 ^ 31) (hi : i = nI k) (hk : k + 5 < L) (hca : ca + 8 ≤ 600000) (hsl : sl + 156 ≤ 7302249) (hw : lwW Γ s LC (cM Γ LC c0) LR (rM Γ LR x) H) (hI : CInv c0) (hRI : RInv x) (hTi : Tie3 c0 x) (hl : lv_has ls 4 [(3, .int i), (2, .ref (LR (.inl 0))), (1, .ref (LC (nm 0 0))), (0, .ref b)]) (kk : lwK p l e s m below meth c Q ls Γ b (LC (nm 0 0)) LR ca sl) : W p l e room_1 s m #[Value.ref b] below meth c H [] ca sl Q (F0 m 438 ls []) := by
  have hx := X.1.1
  have hb := X.1.2.1
  have hbA : ¬ (fun q => s.heap.size ≤ q) b := Nat.not_le.mpr hbl
  obtain ⟨n, h8, hnn, h3, h4, h5⟩ := id hRI
  refine lv_aload_n hx hb dL_law_438 rfl (lv_at hl 2 rfl) ?_
  refine lw_callC (i := nm 0 0) (ci := 7) (As := []) (rest := []) X hw (k_X9_rounds Γ l LC c0  hI) rfl v_X9_rounds ml_L_53 rfl rfl rfl rfl hl.1 ⟨Nat.le_of_ble_eq_true rfl, Nat.le_of_ble_eq_true rfl⟩ (Nat.le_of_ble_eq_true rfl) ⟨Nat.le_trans (show ca + 0 ≤ 600000 by omega) (Nat.le_of_ble_eq_true rfl), Nat.le_trans (show sl + 0 ≤ 7302249 by omega) (Nat.le_of_ble_eq_true rfl)⟩ dL_law_439 (fun v1 LC1 MC1 H1 hp1 hw => ?_)
  obtain ⟨hv1, hp1⟩ := hp1
  obtain ⟨c1, e1, hI1, hq1, hT1⟩ := cv_id hI hTi hp1
  subst e1
  refine lv_aload_n hx hb dL_law_442 rfl (lv_at hl 1 rfl) ?_
  refine lw_callR (i := .inl 0) (ci := 8) (As := []) (rest := [.int v1]) X hw (k_X10_rounds Γ l LR x) rfl v_X10_rounds ml_L_57 rfl rfl rfl rfl hl.1 ⟨Nat.le_of_ble_eq_true rfl, Nat.le_of_ble_eq_true rfl⟩ (Nat.le_of_ble_eq_true rfl) ⟨Nat.le_trans (show ca + 0 + 0 ≤ 600000 by omega) (Nat.le_of_ble_eq_true rfl), Nat.le_trans (show sl + 0 + 0 ≤ 7302249 by omega) (Nat.le_of_ble_eq_true rfl)⟩ dL_law_443 (fun v2 LR1 MR1 H2 hp2 hw => ?_)
  obtain ⟨hv2, e1, e2⟩ := hp2
  subst e1; subst e2
  have hR1 := hRI
  refine lv_icmp_eq (tgt := 642) hx hb dL_law_446 (by decide) (fun _ => ?_) (fun z => absurd (hv1.trans (hTi.2.trans hv2.symm)) z)
  exact W.widen (k := ca + 8) (n := sl + 156) (show ca + 0 + 0 ≤ ca + 8 by omega) (show sl + 0 + 0 ≤ sl + 156 by omega) (kk _ _ _ _ hw hI1 hR1 hq1 hT1)
set_option maxHeartbeats 4000000 in
set_option maxRecDepth 100000 in
theorem lw_case9 (X : mX Γ p m c code 4 s #[Value.ref b] RL (fun q => s.heap.size ≤ q)) (hX : va_X b L xs s s.heap) (hbl : b < s.heap.size) (hL : L < 2 ^ 31) (hi : i = nI k) (hk : k + 5 < L) (hca : ca + 8 ≤ 600000) (hsl : sl + 156 ≤ 7302249) (hw : lwW Γ s LC (cM Γ LC c0) LR (rM Γ LR x) H) (hI : CInv c0) (hRI : RInv x) (hTi : Tie3 c0 x) (hl : lv_has ls 4 [(3, .int i), (2, .ref (LR (.inl 0))), (1, .ref (LC (nm 0 0))), (0, .ref b)]) (kk : lwK p l e s m below meth c Q ls Γ b (LC (nm 0 0)) LR ca sl) : W p l e room_1 s m #[Value.ref b] below meth c H [] ca sl Q (F0 m 451 ls []) := by
  have hx := X.1.1
  have hb := X.1.2.1
  have hbA : ¬ (fun q => s.heap.size ≤ q) b := Nat.not_le.mpr hbl
  obtain ⟨n, h8, hnn, h3, h4, h5⟩ := id hRI
  refine lv_aload_n hx hb dL_law_451 rfl (lv_at hl 2 rfl) ?_
  refine lv_aload_n hx hb dL_law_452 rfl (lv_at hl 3 rfl) ?_
  refine lv_iload_n hx hb dL_law_453 rfl (lv_at hl 0 rfl) ?_
  refine lv_iconst (v := 1) hx hb dL_law_454 (by decide) ?_
  refine lv_iadd hx hb dL_law_455 ?_
  refine va_sld hx hb hX hbl hbA hw.S (lw_in (j := 1) hi rfl (by omega) hL) dL_law_456 ?_
  refine lv_aload_n hx hb dL_law_457 rfl (lv_at hl 3 rfl) ?_
  refine lv_iload_n hx hb dL_law_458 rfl (lv_at hl 0 rfl) ?_
  refine lv_iconst (v := 2) hx hb dL_law_459 (by decide) ?_
  refine lv_iadd hx hb dL_law_460 ?_
  refine va_sld hx hb hX hbl hbA hw.S (lw_in (j := 2) hi rfl (by omega) hL) dL_law_461 ?_
  refine lv_aload_n hx hb dL_law_462 rfl (lv_at hl 3 rfl) ?_
  refine lv_iload_n hx hb dL_law_463 rfl (lv_at hl 0 rfl) ?_
  refine lv_iconst (v := 3) hx hb dL_law_464 (by decide) ?_
  refine lv_iadd hx hb dL_law_465 ?_
  refine va_sld hx hb hX hbl hbA hw.S (lw_in (j := 3) hi rfl (by omega) hL) dL_law_466 ?_
  refine lv_if_eq (tgt := 474) hx hb dL_law_467 (by decide) (fun cq1 => ?_) (fun cq1 => ?_)
  · skip
    refine lv_iconst (v := 0) hx hb dL_law_474 (by decide) ?_
    refine lw_callC (i := nm 0 0) (ci := 7) (As := [.int (xs (i + 1).toNatClampNeg), .int (xs (i + 2).toNatClampNeg), .int 0]) (rest := []) X hw (k_X9_kinds Γ l LC c0 (xs (i + 1).toNatClampNeg) (xs (i + 2).toNatClampNeg) 0 hI) rfl v_X9_kinds ml_L_58 rfl rfl rfl rfl hl.1 ⟨Nat.le_of_ble_eq_true rfl, Nat.le_of_ble_eq_true rfl⟩ (Nat.le_of_ble_eq_true rfl) ⟨Nat.le_trans (show ca + 0 ≤ 600000 by omega) (Nat.le_of_ble_eq_true rfl), Nat.le_trans (show sl + 0 ≤ 7302249 by omega) (Nat.le_of_ble_eq_true rfl)⟩ dL_law_475 (fun v1 LC1 MC1 H1 hp1 hw => ?_)
    obtain ⟨hv1, hp1⟩ := hp1
    obtain ⟨c1, e1, hI1, hq1, hT1⟩ := cv_id hI hTi hp1
    subst e1
    refine lv_pop hx hb dL_law_478 rfl ?_
    refine lv_aload_n hx hb dL_law_479 rfl (lv_at hl 1 rfl) ?_
    refine lv_aload_n hx hb dL_law_480 rfl (lv_at hl 3 rfl) ?_
    refine lv_iload_n hx hb dL_law_481 rfl (lv_at hl 0 rfl) ?_
    refine lv_iconst (v := 1) hx hb dL_law_482 (by decide) ?_
    refine lv_iadd hx hb dL_law_483 ?_
    refine va_sld hx hb hX hbl hbA hw.S (lw_in (j := 1) hi rfl (by omega) hL) dL_law_484 ?_
    refine lv_aload_n hx hb dL_law_485 rfl (lv_at hl 3 rfl) ?_
    refine lv_iload_n hx hb dL_law_486 rfl (lv_at hl 0 rfl) ?_
    refine lv_iconst (v := 2) hx hb dL_law_487 (by decide) ?_
    refine lv_iadd hx hb dL_law_488 ?_
    refine va_sld hx hb hX hbl hbA hw.S (lw_in (j := 2) hi rfl (by omega) hL) dL_law_489 ?_
    refine lv_aload_n hx hb dL_law_490 rfl (lv_at hl 3 rfl) ?_
    refine lv_iload_n hx hb dL_law_491 rfl (lv_at hl 0 rfl) ?_
    refine lv_iconst (v := 3) hx hb dL_law_492 (by decide) ?_
    refine lv_iadd hx hb dL_law_493 ?_
    refine va_sld hx hb hX hbl hbA hw.S (lw_in (j := 3) hi rfl (by omega) hL) dL_law_494 ?_
    refine lv_if_eq (tgt := 502) hx hb dL_law_495 (by decide) (fun _ => ?_) (fun z => absurd cq1 z)
    refine lv_iconst (v := 0) hx hb dL_law_502 (by decide) ?_
    refine lw_callR (i := .inl 0) (ci := 8) (As := [.int (xs (i + 1).toNatClampNeg), .int (xs (i + 2).toNatClampNeg), .int 0]) (rest := []) X hw (k_X10_kinds Γ l LR x (xs (i + 1).toNatClampNeg) (xs (i + 2).toNatClampNeg) 0) rfl v_X10_kinds ml_L_62 rfl rfl rfl rfl hl.1 ⟨Nat.le_of_ble_eq_true rfl, Nat.le_of_ble_eq_true rfl⟩ (Nat.le_of_ble_eq_true rfl) ⟨Nat.le_trans (show ca + 0 + 0 ≤ 600000 by omega) (Nat.le_of_ble_eq_true rfl), Nat.le_trans (show sl + 0 + 0 ≤ 7302249 by omega) (Nat.le_of_ble_eq_true rfl)⟩ dL_law_503 (fun v2 LR1 MR1 H2 hp2 hw => ?_)
    obtain ⟨hv2, e1, e2⟩ := hp2
    subst e1; subst e2
    have hR1 := hRI
    refine lv_pop hx hb dL_law_506 rfl ?_
    refine lv_goto (tgt := 642) hx hb dL_law_507 (by decide) ?_
    exact W.widen (k := ca + 8) (n := sl + 156) (show ca + 0 + 0 ≤ ca + 8 by omega) (show sl + 0 + 0 ≤ sl + 156 by omega) (kk _ _ _ _ hw hI1 hR1 hq1 hT1)
  · skip
    refine lv_iconst (v := 1) hx hb dL_law_470 (by decide) ?_
    refine lv_goto (tgt := 475) hx hb dL_law_471 (by decide) ?_
    refine lw_callC (i := nm 0 0) (ci := 7) (As := [.int (xs (i + 1).toNatClampNeg), .int (xs (i + 2).toNatClampNeg), .int 1]) (rest := []) X hw (k_X9_kinds Γ l LC c0 (xs (i + 1).toNatClampNeg) (xs (i + 2).toNatClampNeg) 1 hI) rfl v_X9_kinds ml_L_58 rfl rfl rfl rfl hl.1 ⟨Nat.le_of_ble_eq_true rfl, Nat.le_of_ble_eq_true rfl⟩ (Nat.le_of_ble_eq_true rfl) ⟨Nat.le_trans (show ca + 0 ≤ 600000 by omega) (Nat.le_of_ble_eq_true rfl), Nat.le_trans (show sl + 0 ≤ 7302249 by omega) (Nat.le_of_ble_eq_true rfl)⟩ dL_law_475 (fun v1 LC1 MC1 H1 hp1 hw => ?_)
    obtain ⟨hv1, hp1⟩ := hp1
    obtain ⟨c1, e1, hI1, hq1, hT1⟩ := cv_id hI hTi hp1
    subst e1
    refine lv_pop hx hb dL_law_478 rfl ?_
    refine lv_aload_n hx hb dL_law_479 rfl (lv_at hl 1 rfl) ?_
    refine lv_aload_n hx hb dL_law_480 rfl (lv_at hl 3 rfl) ?_
    refine lv_iload_n hx hb dL_law_481 rfl (lv_at hl 0 rfl) ?_
    refine lv_iconst (v := 1) hx hb dL_law_482 (by decide) ?_
    refine lv_iadd hx hb dL_law_483 ?_
    refine va_sld hx hb hX hbl hbA hw.S (lw_in (j := 1) hi rfl (by omega) hL) dL_law_484 ?_
    refine lv_aload_n hx hb dL_law_485 rfl (lv_at hl 3 rfl) ?_
    refine lv_iload_n hx hb dL_law_486 rfl (lv_at hl 0 rfl) ?_
    refine lv_iconst (v := 2) hx hb dL_law_487 (by decide) ?_
    refine lv_iadd hx hb dL_law_488 ?_
    refine va_sld hx hb hX hbl hbA hw.S (lw_in (j := 2) hi rfl (by omega) hL) dL_law_489 ?_
    refine lv_aload_n hx hb dL_law_490 rfl (lv_at hl 3 rfl) ?_
    refine lv_iload_n hx hb dL_law_491 rfl (lv_at hl 0 rfl) ?_
    refine lv_iconst (v := 3) hx hb dL_law_492 (by decide) ?_
    refine lv_iadd hx hb dL_law_493 ?_
    refine va_sld hx hb hX hbl hbA hw.S (lw_in (j := 3) hi rfl (by omega) hL) dL_law_494 ?_
    refine lv_if_eq (tgt := 502) hx hb dL_law_495 (by decide) (fun z => absurd z cq1) (fun _ => ?_)
    refine lv_iconst (v := 1) hx hb dL_law_498 (by decide) ?_
    refine lv_goto (tgt := 503) hx hb dL_law_499 (by decide) ?_
    refine lw_callR (i := .inl 0) (ci := 8) (As := [.int (xs (i + 1).toNatClampNeg), .int (xs (i + 2).toNatClampNeg), .int 1]) (rest := []) X hw (k_X10_kinds Γ l LR x (xs (i + 1).toNatClampNeg) (xs (i + 2).toNatClampNeg) 1) rfl v_X10_kinds ml_L_62 rfl rfl rfl rfl hl.1 ⟨Nat.le_of_ble_eq_true rfl, Nat.le_of_ble_eq_true rfl⟩ (Nat.le_of_ble_eq_true rfl) ⟨Nat.le_trans (show ca + 0 + 0 ≤ 600000 by omega) (Nat.le_of_ble_eq_true rfl), Nat.le_trans (show sl + 0 + 0 ≤ 7302249 by omega) (Nat.le_of_ble_eq_true rfl)⟩ dL_law_503 (fun v2 LR1 MR1 H2 hp2 hw => ?_)
    obtain ⟨hv2, e1, e2⟩ := hp2
    subst e1; subst e2
    have hR1 := hRI
    refine lv_pop hx hb dL_law_506 rfl ?_
    refine lv_goto (tgt := 642) hx hb dL_law_507 (by decide) ?_
    exact W.widen (k := ca + 8) (n := sl + 156) (show ca + 0 + 0 ≤ ca + 8 by omega) (show sl + 0 + 0 ≤ sl + 156 by omega) (kk _ _ _ _ hw hI1 hR1 hq1 hT1)
set_option maxHeartbeats 4000000 in
set_option maxRecDepth 100000 in
theorem lw_case10 (X : mX Γ p m c code 4 s #[Value.ref b] RL (fun q => s.heap.size ≤ q)) (hX : va_X b L xs s s.heap) (hbl : b < s.heap.size) (hL : L < 2 ^ 31) (hi : i = nI k) (hk : k + 5 < L) (hca : ca + 8 ≤ 600000) (hsl : sl + 156 ≤ 7302249) (hw : lwW Γ s LC (cM Γ LC c0) LR (rM Γ LR x) H) (hI : CInv c0) (hRI : RInv x) (hTi : Tie3 c0 x) (hl : lv_has ls 4 [(3, .int i), (2, .ref (LR (.inl 0))), (1, .ref (LC (nm 0 0))), (0, .ref b)]) (kk : lwK p l e s m below meth c Q ls Γ b (LC (nm 0 0)) LR ca sl) : W p l e room_1 s m #[Value.ref b] below meth c H [] ca sl Q (F0 m 510 ls []) := by
  have hx := X.1.1
  have hb := X.1.2.1
  have hbA : ¬ (fun q => s.heap.size ≤ q) b := Nat.not_le.mpr hbl
  obtain ⟨n, h8, hnn, h3, h4, h5⟩ := id hRI
  refine lv_aload_n hx hb dL_law_510 rfl (lv_at hl 2 rfl) ?_
  refine lv_aload_n hx hb dL_law_511 rfl (lv_at hl 3 rfl) ?_
  refine lv_iload_n hx hb dL_law_512 rfl (lv_at hl 0 rfl) ?_
  refine lv_iconst (v := 1) hx hb dL_law_513 (by decide) ?_
  refine lv_iadd hx hb dL_law_514 ?_
  refine va_sld hx hb hX hbl hbA hw.S (lw_in (j := 1) hi rfl (by omega) hL) dL_law_515 ?_
  refine lv_aload_n hx hb dL_law_516 rfl (lv_at hl 3 rfl) ?_
  refine lv_iload_n hx hb dL_law_517 rfl (lv_at hl 0 rfl) ?_
  refine lv_iconst (v := 2) hx hb dL_law_518 (by decide) ?_
  refine lv_iadd hx hb dL_law_519 ?_
  refine va_sld hx hb hX hbl hbA hw.S (lw_in (j := 2) hi rfl (by omega) hL) dL_law_520 ?_
  refine lv_aload_n hx hb dL_law_521 rfl (lv_at hl 3 rfl) ?_
  refine lv_iload_n hx hb dL_law_522 rfl (lv_at hl 0 rfl) ?_
  refine lv_iconst (v := 3) hx hb dL_law_523 (by decide) ?_
  refine lv_iadd hx hb dL_law_524 ?_
  refine va_sld hx hb hX hbl hbA hw.S (lw_in (j := 3) hi rfl (by omega) hL) dL_law_525 ?_
  refine lv_aload_n hx hb dL_law_526 rfl (lv_at hl 3 rfl) ?_
  refine lv_iload_n hx hb dL_law_527 rfl (lv_at hl 0 rfl) ?_
  refine lv_iconst (v := 4) hx hb dL_law_528 (by decide) ?_
  refine lv_iadd hx hb dL_law_529 ?_
  refine va_sld hx hb hX hbl hbA hw.S (lw_in (j := 4) hi rfl (by omega) hL) dL_law_530 ?_
  refine lv_aload_n hx hb dL_law_531 rfl (lv_at hl 3 rfl) ?_
  refine lv_iload_n hx hb dL_law_532 rfl (lv_at hl 0 rfl) ?_
  refine lv_iconst (v := 5) hx hb dL_law_533 (by decide) ?_
  refine lv_iadd hx hb dL_law_534 ?_
  refine va_sld hx hb hX hbl hbA hw.S (lw_in (j := 5) hi rfl (by omega) hL) dL_law_535 ?_
  refine lw_callC (i := nm 0 0) (ci := 7) (As := [.int (xs (i + 1).toNatClampNeg), .int (xs (i + 2).toNatClampNeg), .int (xs (i + 3).toNatClampNeg), .int (xs (i + 4).toNatClampNeg), .int (xs (i + 5).toNatClampNeg)]) (rest := []) X hw (k_X9_run Γ l LC c0 (xs (i + 1).toNatClampNeg) (xs (i + 2).toNatClampNeg) (xs (i + 3).toNatClampNeg) (xs (i + 4).toNatClampNeg) (xs (i + 5).toNatClampNeg) hI) rfl v_X9_run ml_L_63 rfl rfl rfl rfl hl.1 ⟨Nat.le_of_ble_eq_true rfl, Nat.le_of_ble_eq_true rfl⟩ (Nat.le_of_ble_eq_true rfl) ⟨Nat.le_trans (show ca + 0 ≤ 600000 by omega) (Nat.le_of_ble_eq_true rfl), Nat.le_trans (show sl + 0 ≤ 7302249 by omega) (Nat.le_of_ble_eq_true rfl)⟩ dL_law_536 (fun v1 LC1 MC1 H1 hp1 hw => ?_)
  obtain ⟨c1, e1, hI1, hq1, hk1⟩ := cv_kp hp1
  subst e1
  refine lv_pop hx hb dL_law_539 rfl ?_
  refine lv_aload_n hx hb dL_law_540 rfl (lv_at hl 1 rfl) ?_
  refine lv_aload_n hx hb dL_law_541 rfl (lv_at hl 3 rfl) ?_
  refine lv_iload_n hx hb dL_law_542 rfl (lv_at hl 0 rfl) ?_
  refine lv_iconst (v := 1) hx hb dL_law_543 (by decide) ?_
  refine lv_iadd hx hb dL_law_544 ?_
  refine va_sld hx hb hX hbl hbA hw.S (lw_in (j := 1) hi rfl (by omega) hL) dL_law_545 ?_
  refine lv_aload_n hx hb dL_law_546 rfl (lv_at hl 3 rfl) ?_
  refine lv_iload_n hx hb dL_law_547 rfl (lv_at hl 0 rfl) ?_
  refine lv_iconst (v := 2) hx hb dL_law_548 (by decide) ?_
  refine lv_iadd hx hb dL_law_549 ?_
  refine va_sld hx hb hX hbl hbA hw.S (lw_in (j := 2) hi rfl (by omega) hL) dL_law_550 ?_
  refine lv_aload_n hx hb dL_law_551 rfl (lv_at hl 3 rfl) ?_
  refine lv_iload_n hx hb dL_law_552 rfl (lv_at hl 0 rfl) ?_
  refine lv_iconst (v := 3) hx hb dL_law_553 (by decide) ?_
  refine lv_iadd hx hb dL_law_554 ?_
  refine va_sld hx hb hX hbl hbA hw.S (lw_in (j := 3) hi rfl (by omega) hL) dL_law_555 ?_
  refine lv_aload_n hx hb dL_law_556 rfl (lv_at hl 3 rfl) ?_
  refine lv_iload_n hx hb dL_law_557 rfl (lv_at hl 0 rfl) ?_
  refine lv_iconst (v := 4) hx hb dL_law_558 (by decide) ?_
  refine lv_iadd hx hb dL_law_559 ?_
  refine va_sld hx hb hX hbl hbA hw.S (lw_in (j := 4) hi rfl (by omega) hL) dL_law_560 ?_
  refine lv_aload_n hx hb dL_law_561 rfl (lv_at hl 3 rfl) ?_
  refine lv_iload_n hx hb dL_law_562 rfl (lv_at hl 0 rfl) ?_
  refine lv_iconst (v := 5) hx hb dL_law_563 (by decide) ?_
  refine lv_iadd hx hb dL_law_564 ?_
  refine va_sld hx hb hX hbl hbA hw.S (lw_in (j := 5) hi rfl (by omega) hL) dL_law_565 ?_
  refine lw_callR (i := .inl 0) (ci := 8) (As := [.int (xs (i + 1).toNatClampNeg), .int (xs (i + 2).toNatClampNeg), .int (xs (i + 3).toNatClampNeg), .int (xs (i + 4).toNatClampNeg), .int (xs (i + 5).toNatClampNeg)]) (rest := []) X hw (k_X10_run Γ l LR x (xs (i + 1).toNatClampNeg) (xs (i + 2).toNatClampNeg) (xs (i + 3).toNatClampNeg) (xs (i + 4).toNatClampNeg) (xs (i + 5).toNatClampNeg) n hnn h8 (fun k hk => h3 k (by omega)) (fun k hk hr => (h4 k (by omega) hr).2)) rfl v_X10_run ml_L_66 rfl rfl rfl rfl hl.1 ⟨Nat.le_of_ble_eq_true rfl, Nat.le_of_ble_eq_true rfl⟩ (Nat.le_of_ble_eq_true rfl) ⟨Nat.le_trans (show ca + 0 + 0 ≤ 600000 by omega) (Nat.le_of_ble_eq_true rfl), Nat.le_trans (show sl + 0 + 0 ≤ 7302249 by omega) (Nat.le_of_ble_eq_true rfl)⟩ dL_law_566 (fun v2 LR1 MR1 H2 hp2 hw => ?_)
  obtain ⟨y9, e1, e2, hC9⟩ := hp2
  subst e1; subst e2
  have hR1 := RI_CK hRI hC9
  have hT1 : Tie3 c1 y9 := ⟨⟨hTi.1.1.keep hk1.o (hC9.2.1 0 (by decide)) (fun j hj => hC9.1 j (by omega)), hTi.1.2.keep hk1.o (fun j hj => hC9.1 j (by omega)) hC9.2.2⟩, hk1.r5.trans (hTi.2.trans (hC9.2.1 13 (by decide)).symm)⟩
  refine lv_pop hx hb dL_law_569 rfl ?_
  refine lv_goto (tgt := 642) hx hb dL_law_570 (by decide) ?_
  exact W.widen (k := ca + 8) (n := sl + 156) (show ca + 0 + 0 ≤ ca + 8 by omega) (show sl + 0 + 0 ≤ sl + 156 by omega) (kk _ _ _ _ hw hI1 hR1 hq1 hT1)
set_option maxHeartbeats 4000000 in
set_option maxRecDepth 100000 in
theorem lw_case11 (X : mX Γ p m c code 4 s #[Value.ref b] RL (fun q => s.heap.size ≤ q)) (hX : va_X b L xs s s.heap) (hbl : b < s.heap.size) (hL : L < 2 ^ 31) (hi : i = nI k) (hk : k + 5 < L) (hca : ca + 8 ≤ 600000) (hsl : sl + 156 ≤ 7302249) (hw : lwW Γ s LC (cM Γ LC c0) LR (rM Γ LR x) H) (hI : CInv c0) (hRI : RInv x) (hTi : Tie3 c0 x) (hl : lv_has ls 4 [(3, .int i), (2, .ref (LR (.inl 0))), (1, .ref (LC (nm 0 0))), (0, .ref b)]) (kk : lwK p l e s m below meth c Q ls Γ b (LC (nm 0 0)) LR ca sl) : W p l e room_1 s m #[Value.ref b] below meth c H [] ca sl Q (F0 m 573 ls []) := by
  have hx := X.1.1
  have hb := X.1.2.1
  have hbA : ¬ (fun q => s.heap.size ≤ q) b := Nat.not_le.mpr hbl
  obtain ⟨n, h8, hnn, h3, h4, h5⟩ := id hRI
  refine lv_aload_n hx hb dL_law_573 rfl (lv_at hl 2 rfl) ?_
  refine lw_callC (i := nm 0 0) (ci := 7) (As := []) (rest := []) X hw (k_X9_answer Γ l LC c0  hI) rfl v_X9_answer ml_L_67 rfl rfl rfl rfl hl.1 ⟨Nat.le_of_ble_eq_true rfl, Nat.le_of_ble_eq_true rfl⟩ (Nat.le_of_ble_eq_true rfl) ⟨Nat.le_trans (show ca + 0 ≤ 600000 by omega) (Nat.le_of_ble_eq_true rfl), Nat.le_trans (show sl + 0 ≤ 7302249 by omega) (Nat.le_of_ble_eq_true rfl)⟩ dL_law_574 (fun v1 LC1 MC1 H1 hp1 hw => ?_)
  obtain ⟨c1, e1, hI1, hq1, hT1⟩ := cv_id hI hTi hp1
  subst e1
  refine lv_pop hx hb dL_law_577 rfl ?_
  refine lv_aload_n hx hb dL_law_578 rfl (lv_at hl 1 rfl) ?_
  refine lw_callR (i := .inl 0) (ci := 8) (As := []) (rest := []) X hw (k_X10_answer Γ l LR x) rfl v_X10_answer ml_L_70 rfl rfl rfl rfl hl.1 ⟨Nat.le_of_ble_eq_true rfl, Nat.le_of_ble_eq_true rfl⟩ (Nat.le_of_ble_eq_true rfl) ⟨Nat.le_trans (show ca + 0 + 0 ≤ 600000 by omega) (Nat.le_of_ble_eq_true rfl), Nat.le_trans (show sl + 0 + 0 ≤ 7302249 by omega) (Nat.le_of_ble_eq_true rfl)⟩ dL_law_579 (fun v2 LR1 MR1 H2 hp2 hw => ?_)
  obtain ⟨hv2, e1, e2⟩ := hp2
  subst e1; subst e2
  have hR1 := hRI
  refine lv_pop hx hb dL_law_582 rfl ?_
  refine lv_goto (tgt := 642) hx hb dL_law_583 (by decide) ?_
  exact W.widen (k := ca + 8) (n := sl + 156) (show ca + 0 + 0 ≤ ca + 8 by omega) (show sl + 0 + 0 ≤ sl + 156 by omega) (kk _ _ _ _ hw hI1 hR1 hq1 hT1)
set_option maxHeartbeats 4000000 in
set_option maxRecDepth 100000 in
theorem lw_case12 (X : mX Γ p m c code 4 s #[Value.ref b] RL (fun q => s.heap.size ≤ q)) (hX : va_X b L xs s s.heap) (hbl : b < s.heap.size) (hL : L < 2 ^ 31) (hi : i = nI k) (hk : k + 5 < L) (hca : ca + 8 ≤ 600000) (hsl : sl + 156 ≤ 7302249) (hw : lwW Γ s LC (cM Γ LC c0) LR (rM Γ LR x) H) (hI : CInv c0) (hRI : RInv x) (hTi : Tie3 c0 x) (hl : lv_has ls 4 [(3, .int i), (2, .ref (LR (.inl 0))), (1, .ref (LC (nm 0 0))), (0, .ref b)]) (kk : lwK p l e s m below meth c Q ls Γ b (LC (nm 0 0)) LR ca sl) : W p l e room_1 s m #[Value.ref b] below meth c H [] ca sl Q (F0 m 586 ls []) := by
  have hx := X.1.1
  have hb := X.1.2.1
  have hbA : ¬ (fun q => s.heap.size ≤ q) b := Nat.not_le.mpr hbl
  obtain ⟨n, h8, hnn, h3, h4, h5⟩ := id hRI
  refine lv_aload_n hx hb dL_law_586 rfl (lv_at hl 2 rfl) ?_
  refine lv_aload_n hx hb dL_law_587 rfl (lv_at hl 3 rfl) ?_
  refine lv_iload_n hx hb dL_law_588 rfl (lv_at hl 0 rfl) ?_
  refine lv_iconst (v := 1) hx hb dL_law_589 (by decide) ?_
  refine lv_iadd hx hb dL_law_590 ?_
  refine va_sld hx hb hX hbl hbA hw.S (lw_in (j := 1) hi rfl (by omega) hL) dL_law_591 ?_
  refine lw_callC (i := nm 0 0) (ci := 7) (As := [.int (xs (i + 1).toNatClampNeg)]) (rest := []) X hw (k_X9_told Γ l LC c0 (xs (i + 1).toNatClampNeg) hI) rfl v_X9_told ml_L_71 rfl rfl rfl rfl hl.1 ⟨Nat.le_of_ble_eq_true rfl, Nat.le_of_ble_eq_true rfl⟩ (Nat.le_of_ble_eq_true rfl) ⟨Nat.le_trans (show ca + 0 ≤ 600000 by omega) (Nat.le_of_ble_eq_true rfl), Nat.le_trans (show sl + 0 ≤ 7302249 by omega) (Nat.le_of_ble_eq_true rfl)⟩ dL_law_592 (fun v1 LC1 MC1 H1 hp1 hw => ?_)
  obtain ⟨c1, e1, hI1, hq1, hT1⟩ := cv_id hI hTi hp1
  subst e1
  refine lv_pop hx hb dL_law_595 rfl ?_
  refine lv_aload_n hx hb dL_law_596 rfl (lv_at hl 1 rfl) ?_
  refine lv_aload_n hx hb dL_law_597 rfl (lv_at hl 3 rfl) ?_
  refine lv_iload_n hx hb dL_law_598 rfl (lv_at hl 0 rfl) ?_
  refine lv_iconst (v := 1) hx hb dL_law_599 (by decide) ?_
  refine lv_iadd hx hb dL_law_600 ?_
  refine va_sld hx hb hX hbl hbA hw.S (lw_in (j := 1) hi rfl (by omega) hL) dL_law_601 ?_
  refine lw_callR (i := .inl 0) (ci := 8) (As := [.int (xs (i + 1).toNatClampNeg)]) (rest := []) X hw (k_X10_told Γ l LR x (xs (i + 1).toNatClampNeg)) rfl v_X10_told ml_L_74 rfl rfl rfl rfl hl.1 ⟨Nat.le_of_ble_eq_true rfl, Nat.le_of_ble_eq_true rfl⟩ (Nat.le_of_ble_eq_true rfl) ⟨Nat.le_trans (show ca + 0 + 0 ≤ 600000 by omega) (Nat.le_of_ble_eq_true rfl), Nat.le_trans (show sl + 0 + 0 ≤ 7302249 by omega) (Nat.le_of_ble_eq_true rfl)⟩ dL_law_602 (fun v2 LR1 MR1 H2 hp2 hw => ?_)
  obtain ⟨hv2, e1, e2⟩ := hp2
  subst e1; subst e2
  have hR1 := hRI
  refine lv_pop hx hb dL_law_605 rfl ?_
  refine lv_goto (tgt := 642) hx hb dL_law_606 (by decide) ?_
  exact W.widen (k := ca + 8) (n := sl + 156) (show ca + 0 + 0 ≤ ca + 8 by omega) (show sl + 0 + 0 ≤ sl + 156 by omega) (kk _ _ _ _ hw hI1 hR1 hq1 hT1)
set_option maxHeartbeats 4000000 in
set_option maxRecDepth 100000 in
theorem lw_case13 (X : mX Γ p m c code 4 s #[Value.ref b] RL (fun q => s.heap.size ≤ q)) (hX : va_X b L xs s s.heap) (hbl : b < s.heap.size) (hL : L < 2 ^ 31) (hi : i = nI k) (hk : k + 5 < L) (hca : ca + 8 ≤ 600000) (hsl : sl + 156 ≤ 7302249) (hw : lwW Γ s LC (cM Γ LC c0) LR (rM Γ LR x) H) (hI : CInv c0) (hRI : RInv x) (hTi : Tie3 c0 x) (hl : lv_has ls 4 [(3, .int i), (2, .ref (LR (.inl 0))), (1, .ref (LC (nm 0 0))), (0, .ref b)]) (kk : lwK p l e s m below meth c Q ls Γ b (LC (nm 0 0)) LR ca sl) : W p l e room_1 s m #[Value.ref b] below meth c H [] ca sl Q (F0 m 609 ls []) := by
  have hx := X.1.1
  have hb := X.1.2.1
  have hbA : ¬ (fun q => s.heap.size ≤ q) b := Nat.not_le.mpr hbl
  obtain ⟨n, h8, hnn, h3, h4, h5⟩ := id hRI
  refine lv_aload_n hx hb dL_law_609 rfl (lv_at hl 2 rfl) ?_
  refine lv_aload_n hx hb dL_law_610 rfl (lv_at hl 3 rfl) ?_
  refine lv_iload_n hx hb dL_law_611 rfl (lv_at hl 0 rfl) ?_
  refine lv_iconst (v := 1) hx hb dL_law_612 (by decide) ?_
  refine lv_iadd hx hb dL_law_613 ?_
  refine va_sld hx hb hX hbl hbA hw.S (lw_in (j := 1) hi rfl (by omega) hL) dL_law_614 ?_
  refine lv_aload_n hx hb dL_law_615 rfl (lv_at hl 3 rfl) ?_
  refine lv_iload_n hx hb dL_law_616 rfl (lv_at hl 0 rfl) ?_
  refine lv_iconst (v := 2) hx hb dL_law_617 (by decide) ?_
  refine lv_iadd hx hb dL_law_618 ?_
  refine va_sld hx hb hX hbl hbA hw.S (lw_in (j := 2) hi rfl (by omega) hL) dL_law_619 ?_
  refine lw_callC (i := nm 0 0) (ci := 7) (As := [.int (xs (i + 1).toNatClampNeg), .int (xs (i + 2).toNatClampNeg)]) (rest := []) X hw (k_X9_count Γ l LC c0 (xs (i + 1).toNatClampNeg) (xs (i + 2).toNatClampNeg) hI) rfl v_X9_count ml_L_75 rfl rfl rfl rfl hl.1 ⟨Nat.le_of_ble_eq_true rfl, Nat.le_of_ble_eq_true rfl⟩ (Nat.le_of_ble_eq_true rfl) ⟨Nat.le_trans (show ca + 0 ≤ 600000 by omega) (Nat.le_of_ble_eq_true rfl), Nat.le_trans (show sl + 0 ≤ 7302249 by omega) (Nat.le_of_ble_eq_true rfl)⟩ dL_law_620 (fun v1 LC1 MC1 H1 hp1 hw => ?_)
  obtain ⟨c1, e1, hI1, hq1, hT1⟩ := cv_id hI hTi hp1
  subst e1
  refine lv_pop hx hb dL_law_623 rfl ?_
  refine lv_aload_n hx hb dL_law_624 rfl (lv_at hl 1 rfl) ?_
  refine lv_aload_n hx hb dL_law_625 rfl (lv_at hl 3 rfl) ?_
  refine lv_iload_n hx hb dL_law_626 rfl (lv_at hl 0 rfl) ?_
  refine lv_iconst (v := 1) hx hb dL_law_627 (by decide) ?_
  refine lv_iadd hx hb dL_law_628 ?_
  refine va_sld hx hb hX hbl hbA hw.S (lw_in (j := 1) hi rfl (by omega) hL) dL_law_629 ?_
  refine lv_aload_n hx hb dL_law_630 rfl (lv_at hl 3 rfl) ?_
  refine lv_iload_n hx hb dL_law_631 rfl (lv_at hl 0 rfl) ?_
  refine lv_iconst (v := 2) hx hb dL_law_632 (by decide) ?_
  refine lv_iadd hx hb dL_law_633 ?_
  refine va_sld hx hb hX hbl hbA hw.S (lw_in (j := 2) hi rfl (by omega) hL) dL_law_634 ?_
  refine lw_callR (i := .inl 0) (ci := 8) (As := [.int (xs (i + 1).toNatClampNeg), .int (xs (i + 2).toNatClampNeg)]) (rest := []) X hw (k_X10_count Γ l LR x (xs (i + 1).toNatClampNeg) (xs (i + 2).toNatClampNeg) n hnn h8) rfl v_X10_count ml_L_78 rfl rfl rfl rfl hl.1 ⟨Nat.le_of_ble_eq_true rfl, Nat.le_of_ble_eq_true rfl⟩ (Nat.le_of_ble_eq_true rfl) ⟨Nat.le_trans (show ca + 0 + 0 ≤ 600000 by omega) (Nat.le_of_ble_eq_true rfl), Nat.le_trans (show sl + 0 + 0 ≤ 7302249 by omega) (Nat.le_of_ble_eq_true rfl)⟩ dL_law_635 (fun v2 LR1 MR1 H2 hp2 hw => ?_)
  obtain ⟨hv2, e1, e2⟩ := hp2
  subst e1; subst e2
  have hR1 := hRI
  refine lv_pop hx hb dL_law_638 rfl ?_
  refine lv_goto (tgt := 642) hx hb dL_law_639 (by decide) ?_
  exact W.widen (k := ca + 8) (n := sl + 156) (show ca + 0 + 0 ≤ ca + 8 by omega) (show sl + 0 + 0 ≤ sl + 156 by omega) (kk _ _ _ _ hw hI1 hR1 hq1 hT1)
end LC
