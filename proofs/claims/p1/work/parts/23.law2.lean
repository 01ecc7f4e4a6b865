/-! THE LAW'S CASES, ON NEW OBJECTS -/
theorem f_method_eq (f : Nat → Int32) (a : Int32) : f_method a = (r_method (xz f) 0 a).1 := by
  unfold f_method r_method
  rw [r_isIn_32 a 0 4 0 4 (by decide) (by decide)]
  have h0 : (0 : Int32).toInt = 0 := by decide
  have h4 : (4 : Int32).toInt = 4 := by decide
  by_cases h : a < 0 ∨ ¬ a ≤ 4
  · rw [if_pos h, if_neg]
    rw [decide_eq_true_iff]
    rw [i32_lt, i32_le, h0, h4] at h
    omega
  · rw [if_neg h, if_pos, if_neg (by decide)]
    · rfl
    · rw [decide_eq_true_iff]
      rw [i32_lt, i32_le, h0, h4] at h
      omega
theorem f_told_eq (f : Nat → Int32) (a : Int32) : f_told a = r_told (xz f) a := by
  unfold f_told r_told xz
  simp
theorem f_count_eq (f : Nat → Int32) (a b : Int32) : f_count a = r_count (xz f) 0 a b := by
  unfold f_count r_count
  rw [isM0]
  simp [xz]
theorem xz_11 {f : Nat → Int32} (hf : ∀ j, j < 40 → f j = -1) : ∀ j, j < 40 → (xz f).2.1 11 j = -1 := by
  intro j hj
  show (if 11 = 11 then f else fun _ => 0) j = -1
  rw [if_pos rfl]
  exact hf j hj
section LC
variable {p : Program} {l : Launch} {e : Env} {s : State} {m : MethodId} {below : List Frame} {meth : Method} {c : Code} {H : Heap} {Q : State → Prop}
variable {ls : Array Slot} {Γ : mG} {LC LR : mI → Nat} {MC : mM} {b L k q0 : Nat} {xs : Nat → Int32} {i : Int32} {f : Nat → Int32}
/-- behind a case -/
abbrev lwK (p : Program) (l : Launch) (e : Env) (s : State) (m : MethodId) (below : List Frame) (meth : Method) (c : Code) (Q : State → Prop) (ls : Array Slot) (Γ : mG) (b : Nat) : Prop := ∀ (LC : mI → Nat) (MC : mM) (LR : mI → Nat) (MR : mM) (H : Heap), lwW Γ s LC MC LR MR H → W p l e room_1 s m #[Value.ref b] below meth c H [] 200 20000 Q (F0 m 642 ls [])
set_option maxHeartbeats 4000000 in
set_option maxRecDepth 100000 in
theorem lw_case0 (X : mX Γ p m c code 4 s #[Value.ref b] RL (fun q => s.heap.size ≤ q)) (hX : va_X b L xs s s.heap) (hbl : b < s.heap.size) (hL : L < 2 ^ 31) (hi : i = nI k) (hk : k + 5 < L) (hw : lwW Γ s LC MC LR (rM Γ LR (xz f)) H) (hF : cFr Γ LC MC) (hM : 0 < MC.2.length) (hf : ∀ j, j < 40 → f j = -1) (hq0 : LC (nm 0 0) = q0) (hl : lv_has ls 4 [(3, .int i), (2, .ref (LR (.inl 0))), (1, .ref q0), (0, .ref b)]) (kk : lwK p l e s m below meth c Q ls Γ b) : W p l e room_1 s m #[Value.ref b] below meth c H [] 123 9537 Q (F0 m 104 ls []) := by
  have hx := X.1.1
  have hb := X.1.2.1
  have hbA : ¬ (fun q => s.heap.size ≤ q) b := Nat.not_le.mpr hbl
  obtain ⟨hc0, hc1, hc2, hc3, hc5, hc6, hc7, hc8, hc9, hc10, hc11, -⟩ := hF
  refine lv_aload_n hx hb dL_law_104 rfl (lv_at hl 2 rfl) ?_
  refine lv_aload_n hx hb dL_law_105 rfl (lv_at hl 3 rfl) ?_
  refine lv_iload_n hx hb dL_law_106 rfl (lv_at hl 0 rfl) ?_
  refine lv_iconst (v := 1) hx hb dL_law_107 (by decide) ?_
  refine lv_iadd hx hb dL_law_108 ?_
  refine va_sld hx hb hX hbl hbA hw.S (lw_in (j := 1) hi rfl (by omega) hL) dL_law_109 ?_
  refine lw_callC (i := nm 0 0) (ci := 7) (As := [.int (xs (i + 1).toNatClampNeg)]) (rest := []) X hw (k_X9_method Γ l LC MC (xs (i + 1).toNatClampNeg) q0 hq0 hc0 hc1 hc2 hM) hq0 v_X9_method ml_L_13 hc0 rfl rfl rfl hl.1 ⟨Nat.le_of_ble_eq_true rfl, Nat.le_of_ble_eq_true rfl⟩ (Nat.le_of_ble_eq_true rfl) ⟨Nat.le_of_ble_eq_true rfl, Nat.le_of_ble_eq_true rfl⟩ dL_law_110 (fun v1 LC1 MC1 H1 hp1 hw => ?_)
  have hv1 := hp1
  refine lv_aload_n hx hb dL_law_113 rfl (lv_at hl 1 rfl) ?_
  refine lv_aload_n hx hb dL_law_114 rfl (lv_at hl 3 rfl) ?_
  refine lv_iload_n hx hb dL_law_115 rfl (lv_at hl 0 rfl) ?_
  refine lv_iconst (v := 1) hx hb dL_law_116 (by decide) ?_
  refine lv_iadd hx hb dL_law_117 ?_
  refine va_sld hx hb hX hbl hbA hw.S (lw_in (j := 1) hi rfl (by omega) hL) dL_law_118 ?_
  refine lw_callR (i := .inl 0) (ci := 8) (As := [.int (xs (i + 1).toNatClampNeg)]) (rest := [.int v1]) X hw (k_X10_method Γ l LR (xz f) (xs (i + 1).toNatClampNeg) 0 rfl (by decide)) rfl v_X10_method ml_L_17 rfl rfl rfl rfl hl.1 ⟨Nat.le_of_ble_eq_true rfl, Nat.le_of_ble_eq_true rfl⟩ (Nat.le_of_ble_eq_true rfl) ⟨Nat.le_of_ble_eq_true rfl, Nat.le_of_ble_eq_true rfl⟩ dL_law_119 (fun v2 LR1 MR1 H2 hp2 hw => ?_)
  have hv2 := hp2.1
  refine lv_icmp_eq (tgt := 642) hx hb dL_law_122 (by decide) (fun _ => ?_) (fun z => absurd (hv1.trans ((f_method_eq _ _).trans hv2.symm)) z)
  exact W.widen (k := 200) (n := 20000) (Nat.le_of_ble_eq_true rfl) (Nat.le_of_ble_eq_true rfl) (kk _ _ _ _ _ hw)
set_option maxHeartbeats 4000000 in
set_option maxRecDepth 100000 in
theorem lw_case1 (X : mX Γ p m c code 4 s #[Value.ref b] RL (fun q => s.heap.size ≤ q)) (hX : va_X b L xs s s.heap) (hbl : b < s.heap.size) (hL : L < 2 ^ 31) (hi : i = nI k) (hk : k + 5 < L) (hw : lwW Γ s LC MC LR (rM Γ LR (xz f)) H) (hF : cFr Γ LC MC) (hM : 0 < MC.2.length) (hf : ∀ j, j < 40 → f j = -1) (hq0 : LC (nm 0 0) = q0) (hl : lv_has ls 4 [(3, .int i), (2, .ref (LR (.inl 0))), (1, .ref q0), (0, .ref b)]) (kk : lwK p l e s m below meth c Q ls Γ b) : W p l e room_1 s m #[Value.ref b] below meth c H [] 123 9537 Q (F0 m 127 ls []) := by
  have hx := X.1.1
  have hb := X.1.2.1
  have hbA : ¬ (fun q => s.heap.size ≤ q) b := Nat.not_le.mpr hbl
  obtain ⟨hc0, hc1, hc2, hc3, hc5, hc6, hc7, hc8, hc9, hc10, hc11, -⟩ := hF
  refine lv_aload_n hx hb dL_law_127 rfl (lv_at hl 2 rfl) ?_
  refine lv_aload_n hx hb dL_law_128 rfl (lv_at hl 3 rfl) ?_
  refine lv_iload_n hx hb dL_law_129 rfl (lv_at hl 0 rfl) ?_
  refine lv_iconst (v := 1) hx hb dL_law_130 (by decide) ?_
  refine lv_iadd hx hb dL_law_131 ?_
  refine va_sld hx hb hX hbl hbA hw.S (lw_in (j := 1) hi rfl (by omega) hL) dL_law_132 ?_
  refine lv_aload_n hx hb dL_law_133 rfl (lv_at hl 3 rfl) ?_
  refine lv_iload_n hx hb dL_law_134 rfl (lv_at hl 0 rfl) ?_
  refine lv_iconst (v := 2) hx hb dL_law_135 (by decide) ?_
  refine lv_iadd hx hb dL_law_136 ?_
  refine va_sld hx hb hX hbl hbA hw.S (lw_in (j := 2) hi rfl (by omega) hL) dL_law_137 ?_
  refine lv_aload_n hx hb dL_law_138 rfl (lv_at hl 3 rfl) ?_
  refine lv_iload_n hx hb dL_law_139 rfl (lv_at hl 0 rfl) ?_
  refine lv_iconst (v := 3) hx hb dL_law_140 (by decide) ?_
  refine lv_iadd hx hb dL_law_141 ?_
  refine va_sld hx hb hX hbl hbA hw.S (lw_in (j := 3) hi rfl (by omega) hL) dL_law_142 ?_
  refine lv_i2l (v := (xs (i + 3).toNatClampNeg).toInt64) hx hb dL_law_143 rfl ?_
  refine lv_bipush (v := 32) hx hb dL_law_144 (by decide) ?_
  refine lv_lshl (v := ((xs (i + 3).toNatClampNeg).toInt64) <<< ((32 : Int32).toInt64 &&& 63)) hx hb dL_law_146 rfl ?_
  refine lv_aload_n hx hb dL_law_147 rfl (lv_at hl 3 rfl) ?_
  refine lv_iload_n hx hb dL_law_148 rfl (lv_at hl 0 rfl) ?_
  refine lv_iconst (v := 4) hx hb dL_law_149 (by decide) ?_
  refine lv_iadd hx hb dL_law_150 ?_
  refine va_sld hx hb hX hbl hbA hw.S (lw_in (j := 4) hi rfl (by omega) hL) dL_law_151 ?_
  refine lv_i2l (v := (xs (i + 4).toNatClampNeg).toInt64) hx hb dL_law_152 rfl ?_
  refine lv_ldc2 (v := 4294967295) hx hb X.1.2.2.2.1 (X.1.2.2.2.2 _ kl_L_18) dL_law_153 ?_
  refine lv_land hx hb dL_law_156 ?_
  refine lv_lor hx hb dL_law_157 ?_
  refine lw_callC (i := nm 0 0) (ci := 7) (As := [.int (xs (i + 1).toNatClampNeg), .int (xs (i + 2).toNatClampNeg), .long ((((xs (i + 3).toNatClampNeg).toInt64) <<< ((32 : Int32).toInt64 &&& 63)) ||| (((xs (i + 4).toNatClampNeg).toInt64) &&& 4294967295))]) (rest := []) X hw (k_X9_op Γ l LC MC (xs (i + 1).toNatClampNeg) (xs (i + 2).toNatClampNeg) ((((xs (i + 3).toNatClampNeg).toInt64) <<< ((32 : Int32).toInt64 &&& 63)) ||| (((xs (i + 4).toNatClampNeg).toInt64) &&& 4294967295)) q0 hq0 hc0 hc1 hc2 hM) hq0 v_X9_op ml_L_20 hc0 rfl rfl rfl hl.1 ⟨Nat.le_of_ble_eq_true rfl, Nat.le_of_ble_eq_true rfl⟩ (Nat.le_of_ble_eq_true rfl) ⟨Nat.le_of_ble_eq_true rfl, Nat.le_of_ble_eq_true rfl⟩ dL_law_158 (fun v1 LC1 MC1 H1 hp1 hw => ?_)
  have hv1 := hp1.1
  refine lv_aload_n hx hb dL_law_161 rfl (lv_at hl 1 rfl) ?_
  refine lv_aload_n hx hb dL_law_162 rfl (lv_at hl 3 rfl) ?_
  refine lv_iload_n hx hb dL_law_163 rfl (lv_at hl 0 rfl) ?_
  refine lv_iconst (v := 1) hx hb dL_law_164 (by decide) ?_
  refine lv_iadd hx hb dL_law_165 ?_
  refine va_sld hx hb hX hbl hbA hw.S (lw_in (j := 1) hi rfl (by omega) hL) dL_law_166 ?_
  refine lv_aload_n hx hb dL_law_167 rfl (lv_at hl 3 rfl) ?_
  refine lv_iload_n hx hb dL_law_168 rfl (lv_at hl 0 rfl) ?_
  refine lv_iconst (v := 2) hx hb dL_law_169 (by decide) ?_
  refine lv_iadd hx hb dL_law_170 ?_
  refine va_sld hx hb hX hbl hbA hw.S (lw_in (j := 2) hi rfl (by omega) hL) dL_law_171 ?_
  refine lv_aload_n hx hb dL_law_172 rfl (lv_at hl 3 rfl) ?_
  refine lv_iload_n hx hb dL_law_173 rfl (lv_at hl 0 rfl) ?_
  refine lv_iconst (v := 3) hx hb dL_law_174 (by decide) ?_
  refine lv_iadd hx hb dL_law_175 ?_
  refine va_sld hx hb hX hbl hbA hw.S (lw_in (j := 3) hi rfl (by omega) hL) dL_law_176 ?_
  refine lv_i2l (v := (xs (i + 3).toNatClampNeg).toInt64) hx hb dL_law_177 rfl ?_
  refine lv_bipush (v := 32) hx hb dL_law_178 (by decide) ?_
  refine lv_lshl (v := ((xs (i + 3).toNatClampNeg).toInt64) <<< ((32 : Int32).toInt64 &&& 63)) hx hb dL_law_180 rfl ?_
  refine lv_aload_n hx hb dL_law_181 rfl (lv_at hl 3 rfl) ?_
  refine lv_iload_n hx hb dL_law_182 rfl (lv_at hl 0 rfl) ?_
  refine lv_iconst (v := 4) hx hb dL_law_183 (by decide) ?_
  refine lv_iadd hx hb dL_law_184 ?_
  refine va_sld hx hb hX hbl hbA hw.S (lw_in (j := 4) hi rfl (by omega) hL) dL_law_185 ?_
  refine lv_i2l (v := (xs (i + 4).toNatClampNeg).toInt64) hx hb dL_law_186 rfl ?_
  refine lv_ldc2 (v := 4294967295) hx hb X.1.2.2.2.1 (X.1.2.2.2.2 _ kl_L_18) dL_law_187 ?_
  refine lv_land hx hb dL_law_190 ?_
  refine lv_lor hx hb dL_law_191 ?_
  refine lw_callR (i := .inl 0) (ci := 8) (As := [.int (xs (i + 1).toNatClampNeg), .int (xs (i + 2).toNatClampNeg), .long ((((xs (i + 3).toNatClampNeg).toInt64) <<< ((32 : Int32).toInt64 &&& 63)) ||| (((xs (i + 4).toNatClampNeg).toInt64) &&& 4294967295))]) (rest := [.int v1]) X hw (k_X10_op Γ l LR (xz f) (xs (i + 1).toNatClampNeg) (xs (i + 2).toNatClampNeg) ((((xs (i + 3).toNatClampNeg).toInt64) <<< ((32 : Int32).toInt64 &&& 63)) ||| (((xs (i + 4).toNatClampNeg).toInt64) &&& 4294967295)) rfl) rfl v_X10_op ml_L_24 rfl rfl rfl rfl hl.1 ⟨Nat.le_of_ble_eq_true rfl, Nat.le_of_ble_eq_true rfl⟩ (Nat.le_of_ble_eq_true rfl) ⟨Nat.le_of_ble_eq_true rfl, Nat.le_of_ble_eq_true rfl⟩ dL_law_192 (fun v2 LR1 MR1 H2 hp2 hw => ?_)
  have hv2 := hp2.1
  refine lv_icmp_eq (tgt := 642) hx hb dL_law_195 (by decide) (fun _ => ?_) (fun z => absurd (hv1.trans hv2.symm) z)
  exact W.widen (k := 200) (n := 20000) (Nat.le_of_ble_eq_true rfl) (Nat.le_of_ble_eq_true rfl) (kk _ _ _ _ _ hw)
set_option maxHeartbeats 4000000 in
set_option maxRecDepth 100000 in
theorem lw_case2 (X : mX Γ p m c code 4 s #[Value.ref b] RL (fun q => s.heap.size ≤ q)) (hX : va_X b L xs s s.heap) (hbl : b < s.heap.size) (hL : L < 2 ^ 31) (hi : i = nI k) (hk : k + 5 < L) (hw : lwW Γ s LC MC LR (rM Γ LR (xz f)) H) (hF : cFr Γ LC MC) (hM : 0 < MC.2.length) (hf : ∀ j, j < 40 → f j = -1) (hq0 : LC (nm 0 0) = q0) (hl : lv_has ls 4 [(3, .int i), (2, .ref (LR (.inl 0))), (1, .ref q0), (0, .ref b)]) (kk : lwK p l e s m below meth c Q ls Γ b) : W p l e room_1 s m #[Value.ref b] below meth c H [] 123 9537 Q (F0 m 200 ls []) := by
  have hx := X.1.1
  have hb := X.1.2.1
  have hbA : ¬ (fun q => s.heap.size ≤ q) b := Nat.not_le.mpr hbl
  obtain ⟨hc0, hc1, hc2, hc3, hc5, hc6, hc7, hc8, hc9, hc10, hc11, -⟩ := hF
  refine lv_aload_n hx hb dL_law_200 rfl (lv_at hl 2 rfl) ?_
  refine lv_aload_n hx hb dL_law_201 rfl (lv_at hl 3 rfl) ?_
  refine lv_iload_n hx hb dL_law_202 rfl (lv_at hl 0 rfl) ?_
  refine lv_iconst (v := 1) hx hb dL_law_203 (by decide) ?_
  refine lv_iadd hx hb dL_law_204 ?_
  refine va_sld hx hb hX hbl hbA hw.S (lw_in (j := 1) hi rfl (by omega) hL) dL_law_205 ?_
  refine lv_aload_n hx hb dL_law_206 rfl (lv_at hl 3 rfl) ?_
  refine lv_iload_n hx hb dL_law_207 rfl (lv_at hl 0 rfl) ?_
  refine lv_iconst (v := 2) hx hb dL_law_208 (by decide) ?_
  refine lv_iadd hx hb dL_law_209 ?_
  refine va_sld hx hb hX hbl hbA hw.S (lw_in (j := 2) hi rfl (by omega) hL) dL_law_210 ?_
  refine lv_aload_n hx hb dL_law_211 rfl (lv_at hl 3 rfl) ?_
  refine lv_iload_n hx hb dL_law_212 rfl (lv_at hl 0 rfl) ?_
  refine lv_iconst (v := 3) hx hb dL_law_213 (by decide) ?_
  refine lv_iadd hx hb dL_law_214 ?_
  refine va_sld hx hb hX hbl hbA hw.S (lw_in (j := 3) hi rfl (by omega) hL) dL_law_215 ?_
  refine lv_aload_n hx hb dL_law_216 rfl (lv_at hl 3 rfl) ?_
  refine lv_iload_n hx hb dL_law_217 rfl (lv_at hl 0 rfl) ?_
  refine lv_iconst (v := 4) hx hb dL_law_218 (by decide) ?_
  refine lv_iadd hx hb dL_law_219 ?_
  refine va_sld hx hb hX hbl hbA hw.S (lw_in (j := 4) hi rfl (by omega) hL) dL_law_220 ?_
  refine lv_aload_n hx hb dL_law_221 rfl (lv_at hl 3 rfl) ?_
  refine lv_iload_n hx hb dL_law_222 rfl (lv_at hl 0 rfl) ?_
  refine lv_iconst (v := 5) hx hb dL_law_223 (by decide) ?_
  refine lv_iadd hx hb dL_law_224 ?_
  refine va_sld hx hb hX hbl hbA hw.S (lw_in (j := 5) hi rfl (by omega) hL) dL_law_225 ?_
  refine lw_callC (i := nm 0 0) (ci := 7) (As := [.int (xs (i + 1).toNatClampNeg), .int (xs (i + 2).toNatClampNeg), .int (xs (i + 3).toNatClampNeg), .int (xs (i + 4).toNatClampNeg), .int (xs (i + 5).toNatClampNeg)]) (rest := []) X hw (k_X9_handler Γ l LC MC (xs (i + 1).toNatClampNeg) (xs (i + 2).toNatClampNeg) (xs (i + 3).toNatClampNeg) (xs (i + 4).toNatClampNeg) (xs (i + 5).toNatClampNeg) q0 hq0 hc0 hc1 hc2 hM) hq0 v_X9_handler ml_L_25 hc0 rfl rfl rfl hl.1 ⟨Nat.le_of_ble_eq_true rfl, Nat.le_of_ble_eq_true rfl⟩ (Nat.le_of_ble_eq_true rfl) ⟨Nat.le_of_ble_eq_true rfl, Nat.le_of_ble_eq_true rfl⟩ dL_law_226 (fun v1 LC1 MC1 H1 hp1 hw => ?_)
  have hv1 := hp1.1
  refine lv_aload_n hx hb dL_law_229 rfl (lv_at hl 1 rfl) ?_
  refine lv_aload_n hx hb dL_law_230 rfl (lv_at hl 3 rfl) ?_
  refine lv_iload_n hx hb dL_law_231 rfl (lv_at hl 0 rfl) ?_
  refine lv_iconst (v := 1) hx hb dL_law_232 (by decide) ?_
  refine lv_iadd hx hb dL_law_233 ?_
  refine va_sld hx hb hX hbl hbA hw.S (lw_in (j := 1) hi rfl (by omega) hL) dL_law_234 ?_
  refine lv_aload_n hx hb dL_law_235 rfl (lv_at hl 3 rfl) ?_
  refine lv_iload_n hx hb dL_law_236 rfl (lv_at hl 0 rfl) ?_
  refine lv_iconst (v := 2) hx hb dL_law_237 (by decide) ?_
  refine lv_iadd hx hb dL_law_238 ?_
  refine va_sld hx hb hX hbl hbA hw.S (lw_in (j := 2) hi rfl (by omega) hL) dL_law_239 ?_
  refine lv_aload_n hx hb dL_law_240 rfl (lv_at hl 3 rfl) ?_
  refine lv_iload_n hx hb dL_law_241 rfl (lv_at hl 0 rfl) ?_
  refine lv_iconst (v := 3) hx hb dL_law_242 (by decide) ?_
  refine lv_iadd hx hb dL_law_243 ?_
  refine va_sld hx hb hX hbl hbA hw.S (lw_in (j := 3) hi rfl (by omega) hL) dL_law_244 ?_
  refine lv_aload_n hx hb dL_law_245 rfl (lv_at hl 3 rfl) ?_
  refine lv_iload_n hx hb dL_law_246 rfl (lv_at hl 0 rfl) ?_
  refine lv_iconst (v := 4) hx hb dL_law_247 (by decide) ?_
  refine lv_iadd hx hb dL_law_248 ?_
  refine va_sld hx hb hX hbl hbA hw.S (lw_in (j := 4) hi rfl (by omega) hL) dL_law_249 ?_
  refine lv_aload_n hx hb dL_law_250 rfl (lv_at hl 3 rfl) ?_
  refine lv_iload_n hx hb dL_law_251 rfl (lv_at hl 0 rfl) ?_
  refine lv_iconst (v := 5) hx hb dL_law_252 (by decide) ?_
  refine lv_iadd hx hb dL_law_253 ?_
  refine va_sld hx hb hX hbl hbA hw.S (lw_in (j := 5) hi rfl (by omega) hL) dL_law_254 ?_
  refine lw_callR (i := .inl 0) (ci := 8) (As := [.int (xs (i + 1).toNatClampNeg), .int (xs (i + 2).toNatClampNeg), .int (xs (i + 3).toNatClampNeg), .int (xs (i + 4).toNatClampNeg), .int (xs (i + 5).toNatClampNeg)]) (rest := [.int v1]) X hw (k_X10_handler Γ l LR (xz f) (xs (i + 1).toNatClampNeg) (xs (i + 2).toNatClampNeg) (xs (i + 3).toNatClampNeg) (xs (i + 4).toNatClampNeg) (xs (i + 5).toNatClampNeg) rfl) rfl v_X10_handler ml_L_29 rfl rfl rfl rfl hl.1 ⟨Nat.le_of_ble_eq_true rfl, Nat.le_of_ble_eq_true rfl⟩ (Nat.le_of_ble_eq_true rfl) ⟨Nat.le_of_ble_eq_true rfl, Nat.le_of_ble_eq_true rfl⟩ dL_law_255 (fun v2 LR1 MR1 H2 hp2 hw => ?_)
  have hv2 := hp2.1
  refine lv_icmp_eq (tgt := 642) hx hb dL_law_258 (by decide) (fun _ => ?_) (fun z => absurd (hv1.trans hv2.symm) z)
  exact W.widen (k := 200) (n := 20000) (Nat.le_of_ble_eq_true rfl) (Nat.le_of_ble_eq_true rfl) (kk _ _ _ _ _ hw)
set_option maxHeartbeats 4000000 in
set_option maxRecDepth 100000 in
theorem lw_case3 (X : mX Γ p m c code 4 s #[Value.ref b] RL (fun q => s.heap.size ≤ q)) (hX : va_X b L xs s s.heap) (hbl : b < s.heap.size) (hL : L < 2 ^ 31) (hi : i = nI k) (hk : k + 5 < L) (hw : lwW Γ s LC MC LR (rM Γ LR (xz f)) H) (hF : cFr Γ LC MC) (hM : 0 < MC.2.length) (hf : ∀ j, j < 40 → f j = -1) (hq0 : LC (nm 0 0) = q0) (hl : lv_has ls 4 [(3, .int i), (2, .ref (LR (.inl 0))), (1, .ref q0), (0, .ref b)]) (kk : lwK p l e s m below meth c Q ls Γ b) : W p l e room_1 s m #[Value.ref b] below meth c H [] 123 9537 Q (F0 m 263 ls []) := by
  have hx := X.1.1
  have hb := X.1.2.1
  have hbA : ¬ (fun q => s.heap.size ≤ q) b := Nat.not_le.mpr hbl
  obtain ⟨hc0, hc1, hc2, hc3, hc5, hc6, hc7, hc8, hc9, hc10, hc11, -⟩ := hF
  refine lv_aload_n hx hb dL_law_263 rfl (lv_at hl 2 rfl) ?_
  refine lv_aload_n hx hb dL_law_264 rfl (lv_at hl 3 rfl) ?_
  refine lv_iload_n hx hb dL_law_265 rfl (lv_at hl 0 rfl) ?_
  refine lv_iconst (v := 1) hx hb dL_law_266 (by decide) ?_
  refine lv_iadd hx hb dL_law_267 ?_
  refine va_sld hx hb hX hbl hbA hw.S (lw_in (j := 1) hi rfl (by omega) hL) dL_law_268 ?_
  refine lv_aload_n hx hb dL_law_269 rfl (lv_at hl 3 rfl) ?_
  refine lv_iload_n hx hb dL_law_270 rfl (lv_at hl 0 rfl) ?_
  refine lv_iconst (v := 2) hx hb dL_law_271 (by decide) ?_
  refine lv_iadd hx hb dL_law_272 ?_
  refine va_sld hx hb hX hbl hbA hw.S (lw_in (j := 2) hi rfl (by omega) hL) dL_law_273 ?_
  refine lv_aload_n hx hb dL_law_274 rfl (lv_at hl 3 rfl) ?_
  refine lv_iload_n hx hb dL_law_275 rfl (lv_at hl 0 rfl) ?_
  refine lv_iconst (v := 3) hx hb dL_law_276 (by decide) ?_
  refine lv_iadd hx hb dL_law_277 ?_
  refine va_sld hx hb hX hbl hbA hw.S (lw_in (j := 3) hi rfl (by omega) hL) dL_law_278 ?_
  refine lw_callC (i := nm 0 0) (ci := 7) (As := [.int (xs (i + 1).toNatClampNeg), .int (xs (i + 2).toNatClampNeg), .int (xs (i + 3).toNatClampNeg)]) (rest := []) X hw (k_X9_frame Γ l LC MC (xs (i + 1).toNatClampNeg) (xs (i + 2).toNatClampNeg) (xs (i + 3).toNatClampNeg) q0 hq0 hc0 hc1 hc2 hM) hq0 v_X9_frame ml_L_30 hc0 rfl rfl rfl hl.1 ⟨Nat.le_of_ble_eq_true rfl, Nat.le_of_ble_eq_true rfl⟩ (Nat.le_of_ble_eq_true rfl) ⟨Nat.le_of_ble_eq_true rfl, Nat.le_of_ble_eq_true rfl⟩ dL_law_279 (fun v1 LC1 MC1 H1 hp1 hw => ?_)
  have hv1 := hp1.1
  refine lv_aload_n hx hb dL_law_282 rfl (lv_at hl 1 rfl) ?_
  refine lv_aload_n hx hb dL_law_283 rfl (lv_at hl 3 rfl) ?_
  refine lv_iload_n hx hb dL_law_284 rfl (lv_at hl 0 rfl) ?_
  refine lv_iconst (v := 1) hx hb dL_law_285 (by decide) ?_
  refine lv_iadd hx hb dL_law_286 ?_
  refine va_sld hx hb hX hbl hbA hw.S (lw_in (j := 1) hi rfl (by omega) hL) dL_law_287 ?_
  refine lv_aload_n hx hb dL_law_288 rfl (lv_at hl 3 rfl) ?_
  refine lv_iload_n hx hb dL_law_289 rfl (lv_at hl 0 rfl) ?_
  refine lv_iconst (v := 2) hx hb dL_law_290 (by decide) ?_
  refine lv_iadd hx hb dL_law_291 ?_
  refine va_sld hx hb hX hbl hbA hw.S (lw_in (j := 2) hi rfl (by omega) hL) dL_law_292 ?_
  refine lv_aload_n hx hb dL_law_293 rfl (lv_at hl 3 rfl) ?_
  refine lv_iload_n hx hb dL_law_294 rfl (lv_at hl 0 rfl) ?_
  refine lv_iconst (v := 3) hx hb dL_law_295 (by decide) ?_
  refine lv_iadd hx hb dL_law_296 ?_
  refine va_sld hx hb hX hbl hbA hw.S (lw_in (j := 3) hi rfl (by omega) hL) dL_law_297 ?_
  refine lw_callR (i := .inl 0) (ci := 8) (As := [.int (xs (i + 1).toNatClampNeg), .int (xs (i + 2).toNatClampNeg), .int (xs (i + 3).toNatClampNeg)]) (rest := [.int v1]) X hw (k_X10_frame Γ l LR (xz f) (xs (i + 1).toNatClampNeg) (xs (i + 2).toNatClampNeg) (xs (i + 3).toNatClampNeg) rfl) rfl v_X10_frame ml_L_34 rfl rfl rfl rfl hl.1 ⟨Nat.le_of_ble_eq_true rfl, Nat.le_of_ble_eq_true rfl⟩ (Nat.le_of_ble_eq_true rfl) ⟨Nat.le_of_ble_eq_true rfl, Nat.le_of_ble_eq_true rfl⟩ dL_law_298 (fun v2 LR1 MR1 H2 hp2 hw => ?_)
  have hv2 := hp2.1
  refine lv_icmp_eq (tgt := 642) hx hb dL_law_301 (by decide) (fun _ => ?_) (fun z => absurd (hv1.trans hv2.symm) z)
  exact W.widen (k := 200) (n := 20000) (Nat.le_of_ble_eq_true rfl) (Nat.le_of_ble_eq_true rfl) (kk _ _ _ _ _ hw)
set_option maxHeartbeats 4000000 in
set_option maxRecDepth 100000 in
theorem lw_case4 (X : mX Γ p m c code 4 s #[Value.ref b] RL (fun q => s.heap.size ≤ q)) (hX : va_X b L xs s s.heap) (hbl : b < s.heap.size) (hL : L < 2 ^ 31) (hi : i = nI k) (hk : k + 5 < L) (hw : lwW Γ s LC MC LR (rM Γ LR (xz f)) H) (hF : cFr Γ LC MC) (hM : 0 < MC.2.length) (hf : ∀ j, j < 40 → f j = -1) (hq0 : LC (nm 0 0) = q0) (hl : lv_has ls 4 [(3, .int i), (2, .ref (LR (.inl 0))), (1, .ref q0), (0, .ref b)]) (kk : lwK p l e s m below meth c Q ls Γ b) : W p l e room_1 s m #[Value.ref b] below meth c H [] 123 9537 Q (F0 m 306 ls []) := by
  have hx := X.1.1
  have hb := X.1.2.1
  have hbA : ¬ (fun q => s.heap.size ≤ q) b := Nat.not_le.mpr hbl
  obtain ⟨hc0, hc1, hc2, hc3, hc5, hc6, hc7, hc8, hc9, hc10, hc11, -⟩ := hF
  refine lv_aload_n hx hb dL_law_306 rfl (lv_at hl 2 rfl) ?_
  refine lv_aload_n hx hb dL_law_307 rfl (lv_at hl 3 rfl) ?_
  refine lv_iload_n hx hb dL_law_308 rfl (lv_at hl 0 rfl) ?_
  refine lv_iconst (v := 1) hx hb dL_law_309 (by decide) ?_
  refine lv_iadd hx hb dL_law_310 ?_
  refine va_sld hx hb hX hbl hbA hw.S (lw_in (j := 1) hi rfl (by omega) hL) dL_law_311 ?_
  refine lv_aload_n hx hb dL_law_312 rfl (lv_at hl 3 rfl) ?_
  refine lv_iload_n hx hb dL_law_313 rfl (lv_at hl 0 rfl) ?_
  refine lv_iconst (v := 2) hx hb dL_law_314 (by decide) ?_
  refine lv_iadd hx hb dL_law_315 ?_
  refine va_sld hx hb hX hbl hbA hw.S (lw_in (j := 2) hi rfl (by omega) hL) dL_law_316 ?_
  refine lv_aload_n hx hb dL_law_317 rfl (lv_at hl 3 rfl) ?_
  refine lv_iload_n hx hb dL_law_318 rfl (lv_at hl 0 rfl) ?_
  refine lv_iconst (v := 3) hx hb dL_law_319 (by decide) ?_
  refine lv_iadd hx hb dL_law_320 ?_
  refine va_sld hx hb hX hbl hbA hw.S (lw_in (j := 3) hi rfl (by omega) hL) dL_law_321 ?_
  refine lv_aload_n hx hb dL_law_322 rfl (lv_at hl 3 rfl) ?_
  refine lv_iload_n hx hb dL_law_323 rfl (lv_at hl 0 rfl) ?_
  refine lv_iconst (v := 4) hx hb dL_law_324 (by decide) ?_
  refine lv_iadd hx hb dL_law_325 ?_
  refine va_sld hx hb hX hbl hbA hw.S (lw_in (j := 4) hi rfl (by omega) hL) dL_law_326 ?_
  refine lw_callC (i := nm 0 0) (ci := 7) (As := [.int (xs (i + 1).toNatClampNeg), .int (xs (i + 2).toNatClampNeg), .int (xs (i + 3).toNatClampNeg), .int (xs (i + 4).toNatClampNeg)]) (rest := []) X hw (k_X9_set Γ l LC MC (xs (i + 1).toNatClampNeg) (xs (i + 2).toNatClampNeg) (xs (i + 3).toNatClampNeg) (xs (i + 4).toNatClampNeg) q0 hq0 hc0 hc1 hc2 hM) hq0 v_X9_set ml_L_35 hc0 rfl rfl rfl hl.1 ⟨Nat.le_of_ble_eq_true rfl, Nat.le_of_ble_eq_true rfl⟩ (Nat.le_of_ble_eq_true rfl) ⟨Nat.le_of_ble_eq_true rfl, Nat.le_of_ble_eq_true rfl⟩ dL_law_327 (fun v1 LC1 MC1 H1 hp1 hw => ?_)
  have hv1 := hp1.1
  refine lv_aload_n hx hb dL_law_330 rfl (lv_at hl 1 rfl) ?_
  refine lv_aload_n hx hb dL_law_331 rfl (lv_at hl 3 rfl) ?_
  refine lv_iload_n hx hb dL_law_332 rfl (lv_at hl 0 rfl) ?_
  refine lv_iconst (v := 1) hx hb dL_law_333 (by decide) ?_
  refine lv_iadd hx hb dL_law_334 ?_
  refine va_sld hx hb hX hbl hbA hw.S (lw_in (j := 1) hi rfl (by omega) hL) dL_law_335 ?_
  refine lv_aload_n hx hb dL_law_336 rfl (lv_at hl 3 rfl) ?_
  refine lv_iload_n hx hb dL_law_337 rfl (lv_at hl 0 rfl) ?_
  refine lv_iconst (v := 2) hx hb dL_law_338 (by decide) ?_
  refine lv_iadd hx hb dL_law_339 ?_
  refine va_sld hx hb hX hbl hbA hw.S (lw_in (j := 2) hi rfl (by omega) hL) dL_law_340 ?_
  refine lv_aload_n hx hb dL_law_341 rfl (lv_at hl 3 rfl) ?_
  refine lv_iload_n hx hb dL_law_342 rfl (lv_at hl 0 rfl) ?_
  refine lv_iconst (v := 3) hx hb dL_law_343 (by decide) ?_
  refine lv_iadd hx hb dL_law_344 ?_
  refine va_sld hx hb hX hbl hbA hw.S (lw_in (j := 3) hi rfl (by omega) hL) dL_law_345 ?_
  refine lv_aload_n hx hb dL_law_346 rfl (lv_at hl 3 rfl) ?_
  refine lv_iload_n hx hb dL_law_347 rfl (lv_at hl 0 rfl) ?_
  refine lv_iconst (v := 4) hx hb dL_law_348 (by decide) ?_
  refine lv_iadd hx hb dL_law_349 ?_
  refine va_sld hx hb hX hbl hbA hw.S (lw_in (j := 4) hi rfl (by omega) hL) dL_law_350 ?_
  refine lw_callR (i := .inl 0) (ci := 8) (As := [.int (xs (i + 1).toNatClampNeg), .int (xs (i + 2).toNatClampNeg), .int (xs (i + 3).toNatClampNeg), .int (xs (i + 4).toNatClampNeg)]) (rest := [.int v1]) X hw (k_X10_set Γ l LR (xz f) (xs (i + 1).toNatClampNeg) (xs (i + 2).toNatClampNeg) (xs (i + 3).toNatClampNeg) (xs (i + 4).toNatClampNeg) rfl) rfl v_X10_set ml_L_39 rfl rfl rfl rfl hl.1 ⟨Nat.le_of_ble_eq_true rfl, Nat.le_of_ble_eq_true rfl⟩ (Nat.le_of_ble_eq_true rfl) ⟨Nat.le_of_ble_eq_true rfl, Nat.le_of_ble_eq_true rfl⟩ dL_law_351 (fun v2 LR1 MR1 H2 hp2 hw => ?_)
  have hv2 := hp2.1
  refine lv_icmp_eq (tgt := 642) hx hb dL_law_354 (by decide) (fun _ => ?_) (fun z => absurd (hv1.trans hv2.symm) z)
  exact W.widen (k := 200) (n := 20000) (Nat.le_of_ble_eq_true rfl) (Nat.le_of_ble_eq_true rfl) (kk _ _ _ _ _ hw)
set_option maxHeartbeats 4000000 in
set_option maxRecDepth 100000 in
theorem lw_case5 (X : mX Γ p m c code 4 s #[Value.ref b] RL (fun q => s.heap.size ≤ q)) (hX : va_X b L xs s s.heap) (hbl : b < s.heap.size) (hL : L < 2 ^ 31) (hi : i = nI k) (hk : k + 5 < L) (hw : lwW Γ s LC MC LR (rM Γ LR (xz f)) H) (hF : cFr Γ LC MC) (hM : 0 < MC.2.length) (hf : ∀ j, j < 40 → f j = -1) (hq0 : LC (nm 0 0) = q0) (hl : lv_has ls 4 [(3, .int i), (2, .ref (LR (.inl 0))), (1, .ref q0), (0, .ref b)]) (kk : lwK p l e s m below meth c Q ls Γ b) : W p l e room_1 s m #[Value.ref b] below meth c H [] 123 9537 Q (F0 m 359 ls []) := by
  have hx := X.1.1
  have hb := X.1.2.1
  have hbA : ¬ (fun q => s.heap.size ≤ q) b := Nat.not_le.mpr hbl
  obtain ⟨hc0, hc1, hc2, hc3, hc5, hc6, hc7, hc8, hc9, hc10, hc11, -⟩ := hF
  refine lv_aload_n hx hb dL_law_359 rfl (lv_at hl 2 rfl) ?_
  refine lv_aload_n hx hb dL_law_360 rfl (lv_at hl 3 rfl) ?_
  refine lv_iload_n hx hb dL_law_361 rfl (lv_at hl 0 rfl) ?_
  refine lv_iconst (v := 1) hx hb dL_law_362 (by decide) ?_
  refine lv_iadd hx hb dL_law_363 ?_
  refine va_sld hx hb hX hbl hbA hw.S (lw_in (j := 1) hi rfl (by omega) hL) dL_law_364 ?_
  refine lw_callC (i := nm 0 0) (ci := 7) (As := [.int (xs (i + 1).toNatClampNeg)]) (rest := []) X hw (k_X9_judge Γ l LC MC (xs (i + 1).toNatClampNeg) q0 hq0 hc0 hc1 hc2 hM) hq0 v_X9_judge ml_L_40 hc0 rfl rfl rfl hl.1 ⟨Nat.le_of_ble_eq_true rfl, Nat.le_of_ble_eq_true rfl⟩ (Nat.le_of_ble_eq_true rfl) ⟨Nat.le_of_ble_eq_true rfl, Nat.le_of_ble_eq_true rfl⟩ dL_law_365 (fun v1 LC1 MC1 H1 hp1 hw => ?_)
  have hv1 := hp1.1
  refine lv_aload_n hx hb dL_law_368 rfl (lv_at hl 1 rfl) ?_
  refine lv_aload_n hx hb dL_law_369 rfl (lv_at hl 3 rfl) ?_
  refine lv_iload_n hx hb dL_law_370 rfl (lv_at hl 0 rfl) ?_
  refine lv_iconst (v := 1) hx hb dL_law_371 (by decide) ?_
  refine lv_iadd hx hb dL_law_372 ?_
  refine va_sld hx hb hX hbl hbA hw.S (lw_in (j := 1) hi rfl (by omega) hL) dL_law_373 ?_
  refine lw_callR (i := .inl 0) (ci := 8) (As := [.int (xs (i + 1).toNatClampNeg)]) (rest := [.int v1]) X hw (k_X10_judge Γ l LR (xz f) (xs (i + 1).toNatClampNeg) rfl) rfl v_X10_judge ml_L_43 rfl rfl rfl rfl hl.1 ⟨Nat.le_of_ble_eq_true rfl, Nat.le_of_ble_eq_true rfl⟩ (Nat.le_of_ble_eq_true rfl) ⟨Nat.le_of_ble_eq_true rfl, Nat.le_of_ble_eq_true rfl⟩ dL_law_374 (fun v2 LR1 MR1 H2 hp2 hw => ?_)
  have hv2 := hp2.1
  refine lv_icmp_eq (tgt := 642) hx hb dL_law_377 (by decide) (fun _ => ?_) (fun z => absurd (hv1.trans hv2.symm) z)
  exact W.widen (k := 200) (n := 20000) (Nat.le_of_ble_eq_true rfl) (Nat.le_of_ble_eq_true rfl) (kk _ _ _ _ _ hw)
set_option maxHeartbeats 4000000 in
set_option maxRecDepth 100000 in
theorem lw_case6 (X : mX Γ p m c code 4 s #[Value.ref b] RL (fun q => s.heap.size ≤ q)) (hX : va_X b L xs s s.heap) (hbl : b < s.heap.size) (hL : L < 2 ^ 31) (hi : i = nI k) (hk : k + 5 < L) (hw : lwW Γ s LC MC LR (rM Γ LR (xz f)) H) (hF : cFr Γ LC MC) (hM : 0 < MC.2.length) (hf : ∀ j, j < 40 → f j = -1) (hq0 : LC (nm 0 0) = q0) (hl : lv_has ls 4 [(3, .int i), (2, .ref (LR (.inl 0))), (1, .ref q0), (0, .ref b)]) (kk : lwK p l e s m below meth c Q ls Γ b) : W p l e room_1 s m #[Value.ref b] below meth c H [] 123 9537 Q (F0 m 382 ls []) := by
  have hx := X.1.1
  have hb := X.1.2.1
  have hbA : ¬ (fun q => s.heap.size ≤ q) b := Nat.not_le.mpr hbl
  obtain ⟨hc0, hc1, hc2, hc3, hc5, hc6, hc7, hc8, hc9, hc10, hc11, -⟩ := hF
  refine lv_aload_n hx hb dL_law_382 rfl (lv_at hl 2 rfl) ?_
  refine lv_aload_n hx hb dL_law_383 rfl (lv_at hl 3 rfl) ?_
  refine lv_iload_n hx hb dL_law_384 rfl (lv_at hl 0 rfl) ?_
  refine lv_iconst (v := 1) hx hb dL_law_385 (by decide) ?_
  refine lv_iadd hx hb dL_law_386 ?_
  refine va_sld hx hb hX hbl hbA hw.S (lw_in (j := 1) hi rfl (by omega) hL) dL_law_387 ?_
  refine lw_callC (i := nm 0 0) (ci := 7) (As := [.int (xs (i + 1).toNatClampNeg)]) (rest := []) X hw (k_X9_join Γ l LC MC (xs (i + 1).toNatClampNeg) q0 hq0 hc0 hc1 hc2 hM) hq0 v_X9_join ml_L_44 hc0 rfl rfl rfl hl.1 ⟨Nat.le_of_ble_eq_true rfl, Nat.le_of_ble_eq_true rfl⟩ (Nat.le_of_ble_eq_true rfl) ⟨Nat.le_of_ble_eq_true rfl, Nat.le_of_ble_eq_true rfl⟩ dL_law_388 (fun v1 LC1 MC1 H1 hp1 hw => ?_)
  have hv1 := hp1.1
  refine lv_aload_n hx hb dL_law_391 rfl (lv_at hl 1 rfl) ?_
  refine lv_aload_n hx hb dL_law_392 rfl (lv_at hl 3 rfl) ?_
  refine lv_iload_n hx hb dL_law_393 rfl (lv_at hl 0 rfl) ?_
  refine lv_iconst (v := 1) hx hb dL_law_394 (by decide) ?_
  refine lv_iadd hx hb dL_law_395 ?_
  refine va_sld hx hb hX hbl hbA hw.S (lw_in (j := 1) hi rfl (by omega) hL) dL_law_396 ?_
  refine lw_callR (i := .inl 0) (ci := 8) (As := [.int (xs (i + 1).toNatClampNeg)]) (rest := [.int v1]) X hw (k_X10_join Γ l LR (xz f) (xs (i + 1).toNatClampNeg) rfl) rfl v_X10_join ml_L_47 rfl rfl rfl rfl hl.1 ⟨Nat.le_of_ble_eq_true rfl, Nat.le_of_ble_eq_true rfl⟩ (Nat.le_of_ble_eq_true rfl) ⟨Nat.le_of_ble_eq_true rfl, Nat.le_of_ble_eq_true rfl⟩ dL_law_397 (fun v2 LR1 MR1 H2 hp2 hw => ?_)
  have hv2 := hp2.1
  refine lv_icmp_eq (tgt := 642) hx hb dL_law_400 (by decide) (fun _ => ?_) (fun z => absurd (hv1.trans hv2.symm) z)
  exact W.widen (k := 200) (n := 20000) (Nat.le_of_ble_eq_true rfl) (Nat.le_of_ble_eq_true rfl) (kk _ _ _ _ _ hw)
set_option maxHeartbeats 4000000 in
set_option maxRecDepth 100000 in
theorem lw_case7 (X : mX Γ p m c code 4 s #[Value.ref b] RL (fun q => s.heap.size ≤ q)) (hX : va_X b L xs s s.heap) (hbl : b < s.heap.size) (hL : L < 2 ^ 31) (hi : i = nI k) (hk : k + 5 < L) (hw : lwW Γ s LC MC LR (rM Γ LR (xz f)) H) (hF : cFr Γ LC MC) (hM : 0 < MC.2.length) (hf : ∀ j, j < 40 → f j = -1) (hq0 : LC (nm 0 0) = q0) (hl : lv_has ls 4 [(3, .int i), (2, .ref (LR (.inl 0))), (1, .ref q0), (0, .ref b)]) (kk : lwK p l e s m below meth c Q ls Γ b) : W p l e room_1 s m #[Value.ref b] below meth c H [] 123 9537 Q (F0 m 405 ls []) := by
  have hx := X.1.1
  have hb := X.1.2.1
  have hbA : ¬ (fun q => s.heap.size ≤ q) b := Nat.not_le.mpr hbl
  obtain ⟨hc0, hc1, hc2, hc3, hc5, hc6, hc7, hc8, hc9, hc10, hc11, -⟩ := hF
  refine lv_aload_n hx hb dL_law_405 rfl (lv_at hl 2 rfl) ?_
  refine lv_aload_n hx hb dL_law_406 rfl (lv_at hl 3 rfl) ?_
  refine lv_iload_n hx hb dL_law_407 rfl (lv_at hl 0 rfl) ?_
  refine lv_iconst (v := 1) hx hb dL_law_408 (by decide) ?_
  refine lv_iadd hx hb dL_law_409 ?_
  refine va_sld hx hb hX hbl hbA hw.S (lw_in (j := 1) hi rfl (by omega) hL) dL_law_410 ?_
  refine lv_aload_n hx hb dL_law_411 rfl (lv_at hl 3 rfl) ?_
  refine lv_iload_n hx hb dL_law_412 rfl (lv_at hl 0 rfl) ?_
  refine lv_iconst (v := 2) hx hb dL_law_413 (by decide) ?_
  refine lv_iadd hx hb dL_law_414 ?_
  refine va_sld hx hb hX hbl hbA hw.S (lw_in (j := 2) hi rfl (by omega) hL) dL_law_415 ?_
  refine lw_callC (i := nm 0 0) (ci := 7) (As := [.int (xs (i + 1).toNatClampNeg), .int (xs (i + 2).toNatClampNeg)]) (rest := []) X hw (k_X9_kind Γ l LC MC (xs (i + 1).toNatClampNeg) (xs (i + 2).toNatClampNeg) q0 hq0 hc0 hc3 hM) hq0 v_X9_kind ml_L_48 hc0 rfl rfl rfl hl.1 ⟨Nat.le_of_ble_eq_true rfl, Nat.le_of_ble_eq_true rfl⟩ (Nat.le_of_ble_eq_true rfl) ⟨Nat.le_of_ble_eq_true rfl, Nat.le_of_ble_eq_true rfl⟩ dL_law_416 (fun v1 LC1 MC1 H1 hp1 hw => ?_)
  have hv1 := hp1.1
  refine lv_aload_n hx hb dL_law_419 rfl (lv_at hl 1 rfl) ?_
  refine lv_aload_n hx hb dL_law_420 rfl (lv_at hl 3 rfl) ?_
  refine lv_iload_n hx hb dL_law_421 rfl (lv_at hl 0 rfl) ?_
  refine lv_iconst (v := 1) hx hb dL_law_422 (by decide) ?_
  refine lv_iadd hx hb dL_law_423 ?_
  refine va_sld hx hb hX hbl hbA hw.S (lw_in (j := 1) hi rfl (by omega) hL) dL_law_424 ?_
  refine lv_aload_n hx hb dL_law_425 rfl (lv_at hl 3 rfl) ?_
  refine lv_iload_n hx hb dL_law_426 rfl (lv_at hl 0 rfl) ?_
  refine lv_iconst (v := 2) hx hb dL_law_427 (by decide) ?_
  refine lv_iadd hx hb dL_law_428 ?_
  refine va_sld hx hb hX hbl hbA hw.S (lw_in (j := 2) hi rfl (by omega) hL) dL_law_429 ?_
  refine lw_callR (i := .inl 0) (ci := 8) (As := [.int (xs (i + 1).toNatClampNeg), .int (xs (i + 2).toNatClampNeg)]) (rest := [.int v1]) X hw (k_X10_kind Γ l LR (xz f) (xs (i + 1).toNatClampNeg) (xs (i + 2).toNatClampNeg) (xz_11 hf)) rfl v_X10_kind ml_L_52 rfl rfl rfl rfl hl.1 ⟨Nat.le_of_ble_eq_true rfl, Nat.le_of_ble_eq_true rfl⟩ (Nat.le_of_ble_eq_true rfl) ⟨Nat.le_of_ble_eq_true rfl, Nat.le_of_ble_eq_true rfl⟩ dL_law_430 (fun v2 LR1 MR1 H2 hp2 hw => ?_)
  have hv2 := hp2.1
  refine lv_icmp_eq (tgt := 642) hx hb dL_law_433 (by decide) (fun _ => ?_) (fun z => absurd (hv1.trans hv2.symm) z)
  exact W.widen (k := 200) (n := 20000) (Nat.le_of_ble_eq_true rfl) (Nat.le_of_ble_eq_true rfl) (kk _ _ _ _ _ hw)
set_option maxHeartbeats 4000000 in
set_option maxRecDepth 100000 in
theorem lw_case8 (X : mX Γ p m c code 4 s #[Value.ref b] RL (fun q => s.heap.size ≤ q)) (hX : va_X b L xs s s.heap) (hbl : b < s.heap.size) (hL : L < 2 ^ 31) (hi : i = nI k) (hk : k + 5 < L) (hw : lwW Γ s LC MC LR (rM Γ LR (xz f)) H) (hF : cFr Γ LC MC) (hM : 0 < MC.2.length) (hf : ∀ j, j < 40 → f j = -1) (hq0 : LC (nm 0 0) = q0) (hl : lv_has ls 4 [(3, .int i), (2, .ref (LR (.inl 0))), (1, .ref q0), (0, .ref b)]) (kk : lwK p l e s m below meth c Q ls Γ b) : W p l e room_1 s m #[Value.ref b] below meth c H [] 123 9537 Q (F0 m 438 ls []) := by
  have hx := X.1.1
  have hb := X.1.2.1
  have hbA : ¬ (fun q => s.heap.size ≤ q) b := Nat.not_le.mpr hbl
  obtain ⟨hc0, hc1, hc2, hc3, hc5, hc6, hc7, hc8, hc9, hc10, hc11, -⟩ := hF
  refine lv_aload_n hx hb dL_law_438 rfl (lv_at hl 2 rfl) ?_
  refine lw_callC (i := nm 0 0) (ci := 7) (As := []) (rest := []) X hw (k_X9_rounds Γ l LC MC  q0 hq0 hc0 hc3 hM) hq0 v_X9_rounds ml_L_53 hc0 rfl rfl rfl hl.1 ⟨Nat.le_of_ble_eq_true rfl, Nat.le_of_ble_eq_true rfl⟩ (Nat.le_of_ble_eq_true rfl) ⟨Nat.le_of_ble_eq_true rfl, Nat.le_of_ble_eq_true rfl⟩ dL_law_439 (fun v1 LC1 MC1 H1 hp1 hw => ?_)
  have hv1 := hp1.1
  refine lv_aload_n hx hb dL_law_442 rfl (lv_at hl 1 rfl) ?_
  refine lw_callR (i := .inl 0) (ci := 8) (As := []) (rest := [.int v1]) X hw (k_X10_rounds Γ l LR (xz f)  ) rfl v_X10_rounds ml_L_57 rfl rfl rfl rfl hl.1 ⟨Nat.le_of_ble_eq_true rfl, Nat.le_of_ble_eq_true rfl⟩ (Nat.le_of_ble_eq_true rfl) ⟨Nat.le_of_ble_eq_true rfl, Nat.le_of_ble_eq_true rfl⟩ dL_law_443 (fun v2 LR1 MR1 H2 hp2 hw => ?_)
  have hv2 := hp2.1
  refine lv_icmp_eq (tgt := 642) hx hb dL_law_446 (by decide) (fun _ => ?_) (fun z => absurd (hv1.trans ((rfl).trans hv2.symm)) z)
  exact W.widen (k := 200) (n := 20000) (Nat.le_of_ble_eq_true rfl) (Nat.le_of_ble_eq_true rfl) (kk _ _ _ _ _ hw)
set_option maxHeartbeats 4000000 in
set_option maxRecDepth 100000 in
theorem lw_case9 (X : mX Γ p m c code 4 s #[Value.ref b] RL (fun q => s.heap.size ≤ q)) (hX : va_X b L xs s s.heap) (hbl : b < s.heap.size) (hL : L < 2 ^ 31) (hi : i = nI k) (hk : k + 5 < L) (hw : lwW Γ s LC MC LR (rM Γ LR (xz f)) H) (hF : cFr Γ LC MC) (hM : 0 < MC.2.length) (hf : ∀ j, j < 40 → f j = -1) (hq0 : LC (nm 0 0) = q0) (hl : lv_has ls 4 [(3, .int i), (2, .ref (LR (.inl 0))), (1, .ref q0), (0, .ref b)]) (kk : lwK p l e s m below meth c Q ls Γ b) : W p l e room_1 s m #[Value.ref b] below meth c H [] 123 9537 Q (F0 m 451 ls []) := by
  have hx := X.1.1
  have hb := X.1.2.1
  have hbA : ¬ (fun q => s.heap.size ≤ q) b := Nat.not_le.mpr hbl
  obtain ⟨hc0, hc1, hc2, hc3, hc5, hc6, hc7, hc8, hc9, hc10, hc11, -⟩ := hF
  refine lv_aload_n hx hb dL_law_451 rfl (lv_at hl 2 rfl) ?_
  refine lv_aload_n hx hb dL_law_452 rfl (lv_at hl 3 rfl) ?_
  refine lv_iload_n hx hb dL_law_453 rfl (lv_at hl 0 rfl) ?_
  refine lv_iconst (v := 1) hx hb dL_law_454 (by decide) ?_
  refine lv_iadd hx hb dL_law_455 ?_
  refine va_sld hx hb hX hbl hbA hw.S (lw_in (j := 1) hi rfl (by omega) hL) dL_law_456 ?_
  refine lv_aload_n hx hb dL_law_457 rfl (lv_at hl 3 rfl) ?_
  refine lv_iload_n hx hb dL_law_458 rfl (lv_at hl 0 rfl) ?_
  refine lv_iconst (v := 2) hx hb dL_law_459 (by decide) ?_
  refine lv_iadd hx hb dL_law_460 ?_
  refine va_sld hx hb hX hbl hbA hw.S (lw_in (j := 2) hi rfl (by omega) hL) dL_law_461 ?_
  refine lv_aload_n hx hb dL_law_462 rfl (lv_at hl 3 rfl) ?_
  refine lv_iload_n hx hb dL_law_463 rfl (lv_at hl 0 rfl) ?_
  refine lv_iconst (v := 3) hx hb dL_law_464 (by decide) ?_
  refine lv_iadd hx hb dL_law_465 ?_
  refine va_sld hx hb hX hbl hbA hw.S (lw_in (j := 3) hi rfl (by omega) hL) dL_law_466 ?_
  refine lv_if_eq (tgt := 474) hx hb dL_law_467 (by decide) (fun c1 => ?_) (fun c1 => ?_)
  · skip
    refine lv_iconst (v := 0) hx hb dL_law_474 (by decide) ?_
    refine lw_callC (i := nm 0 0) (ci := 7) (As := [.int (xs (i + 1).toNatClampNeg), .int (xs (i + 2).toNatClampNeg), .int 0]) (rest := []) X hw (k_X9_kinds Γ l LC MC (xs (i + 1).toNatClampNeg) (xs (i + 2).toNatClampNeg) 0 q0 hq0  hM) hq0 v_X9_kinds ml_L_58 hc0 rfl rfl rfl hl.1 ⟨Nat.le_of_ble_eq_true rfl, Nat.le_of_ble_eq_true rfl⟩ (Nat.le_of_ble_eq_true rfl) ⟨Nat.le_of_ble_eq_true rfl, Nat.le_of_ble_eq_true rfl⟩ dL_law_475 (fun v1 LC1 MC1 H1 hp1 hw => ?_)
    have hv1 := hp1.1
    refine lv_aload_n hx hb dL_law_478 rfl (lv_at hl 1 rfl) ?_
    refine lv_aload_n hx hb dL_law_479 rfl (lv_at hl 3 rfl) ?_
    refine lv_iload_n hx hb dL_law_480 rfl (lv_at hl 0 rfl) ?_
    refine lv_iconst (v := 1) hx hb dL_law_481 (by decide) ?_
    refine lv_iadd hx hb dL_law_482 ?_
    refine va_sld hx hb hX hbl hbA hw.S (lw_in (j := 1) hi rfl (by omega) hL) dL_law_483 ?_
    refine lv_aload_n hx hb dL_law_484 rfl (lv_at hl 3 rfl) ?_
    refine lv_iload_n hx hb dL_law_485 rfl (lv_at hl 0 rfl) ?_
    refine lv_iconst (v := 2) hx hb dL_law_486 (by decide) ?_
    refine lv_iadd hx hb dL_law_487 ?_
    refine va_sld hx hb hX hbl hbA hw.S (lw_in (j := 2) hi rfl (by omega) hL) dL_law_488 ?_
    refine lv_aload_n hx hb dL_law_489 rfl (lv_at hl 3 rfl) ?_
    refine lv_iload_n hx hb dL_law_490 rfl (lv_at hl 0 rfl) ?_
    refine lv_iconst (v := 3) hx hb dL_law_491 (by decide) ?_
    refine lv_iadd hx hb dL_law_492 ?_
    refine va_sld hx hb hX hbl hbA hw.S (lw_in (j := 3) hi rfl (by omega) hL) dL_law_493 ?_
    refine lv_if_eq (tgt := 501) hx hb dL_law_494 (by decide) (fun _ => ?_) (fun z => absurd c1 z)
    refine lv_iconst (v := 0) hx hb dL_law_501 (by decide) ?_
    refine lw_callR (i := .inl 0) (ci := 8) (As := [.int (xs (i + 1).toNatClampNeg), .int (xs (i + 2).toNatClampNeg), .int 0]) (rest := [.int v1]) X hw (k_X10_kinds Γ l LR (xz f) (xs (i + 1).toNatClampNeg) (xs (i + 2).toNatClampNeg) 0 ) rfl v_X10_kinds ml_L_62 rfl rfl rfl rfl hl.1 ⟨Nat.le_of_ble_eq_true rfl, Nat.le_of_ble_eq_true rfl⟩ (Nat.le_of_ble_eq_true rfl) ⟨Nat.le_of_ble_eq_true rfl, Nat.le_of_ble_eq_true rfl⟩ dL_law_502 (fun v2 LR1 MR1 H2 hp2 hw => ?_)
    have hv2 := hp2.1
    refine lv_icmp_eq (tgt := 642) hx hb dL_law_505 (by decide) (fun _ => ?_) (fun z => absurd (hv1.trans ((k_kinds_eq _ _ _).trans hv2.symm)) z)
    exact W.widen (k := 200) (n := 20000) (Nat.le_of_ble_eq_true rfl) (Nat.le_of_ble_eq_true rfl) (kk _ _ _ _ _ hw)
  · skip
    refine lv_iconst (v := 1) hx hb dL_law_470 (by decide) ?_
    refine lv_goto (tgt := 475) hx hb dL_law_471 (by decide) ?_
    refine lw_callC (i := nm 0 0) (ci := 7) (As := [.int (xs (i + 1).toNatClampNeg), .int (xs (i + 2).toNatClampNeg), .int 1]) (rest := []) X hw (k_X9_kinds Γ l LC MC (xs (i + 1).toNatClampNeg) (xs (i + 2).toNatClampNeg) 1 q0 hq0  hM) hq0 v_X9_kinds ml_L_58 hc0 rfl rfl rfl hl.1 ⟨Nat.le_of_ble_eq_true rfl, Nat.le_of_ble_eq_true rfl⟩ (Nat.le_of_ble_eq_true rfl) ⟨Nat.le_of_ble_eq_true rfl, Nat.le_of_ble_eq_true rfl⟩ dL_law_475 (fun v1 LC1 MC1 H1 hp1 hw => ?_)
    have hv1 := hp1.1
    refine lv_aload_n hx hb dL_law_478 rfl (lv_at hl 1 rfl) ?_
    refine lv_aload_n hx hb dL_law_479 rfl (lv_at hl 3 rfl) ?_
    refine lv_iload_n hx hb dL_law_480 rfl (lv_at hl 0 rfl) ?_
    refine lv_iconst (v := 1) hx hb dL_law_481 (by decide) ?_
    refine lv_iadd hx hb dL_law_482 ?_
    refine va_sld hx hb hX hbl hbA hw.S (lw_in (j := 1) hi rfl (by omega) hL) dL_law_483 ?_
    refine lv_aload_n hx hb dL_law_484 rfl (lv_at hl 3 rfl) ?_
    refine lv_iload_n hx hb dL_law_485 rfl (lv_at hl 0 rfl) ?_
    refine lv_iconst (v := 2) hx hb dL_law_486 (by decide) ?_
    refine lv_iadd hx hb dL_law_487 ?_
    refine va_sld hx hb hX hbl hbA hw.S (lw_in (j := 2) hi rfl (by omega) hL) dL_law_488 ?_
    refine lv_aload_n hx hb dL_law_489 rfl (lv_at hl 3 rfl) ?_
    refine lv_iload_n hx hb dL_law_490 rfl (lv_at hl 0 rfl) ?_
    refine lv_iconst (v := 3) hx hb dL_law_491 (by decide) ?_
    refine lv_iadd hx hb dL_law_492 ?_
    refine va_sld hx hb hX hbl hbA hw.S (lw_in (j := 3) hi rfl (by omega) hL) dL_law_493 ?_
    refine lv_if_eq (tgt := 501) hx hb dL_law_494 (by decide) (fun z => absurd z c1) (fun _ => ?_)
    refine lv_iconst (v := 1) hx hb dL_law_497 (by decide) ?_
    refine lv_goto (tgt := 502) hx hb dL_law_498 (by decide) ?_
    refine lw_callR (i := .inl 0) (ci := 8) (As := [.int (xs (i + 1).toNatClampNeg), .int (xs (i + 2).toNatClampNeg), .int 1]) (rest := [.int v1]) X hw (k_X10_kinds Γ l LR (xz f) (xs (i + 1).toNatClampNeg) (xs (i + 2).toNatClampNeg) 1 ) rfl v_X10_kinds ml_L_62 rfl rfl rfl rfl hl.1 ⟨Nat.le_of_ble_eq_true rfl, Nat.le_of_ble_eq_true rfl⟩ (Nat.le_of_ble_eq_true rfl) ⟨Nat.le_of_ble_eq_true rfl, Nat.le_of_ble_eq_true rfl⟩ dL_law_502 (fun v2 LR1 MR1 H2 hp2 hw => ?_)
    have hv2 := hp2.1
    refine lv_icmp_eq (tgt := 642) hx hb dL_law_505 (by decide) (fun _ => ?_) (fun z => absurd (hv1.trans ((k_kinds_eq _ _ _).trans hv2.symm)) z)
    exact W.widen (k := 200) (n := 20000) (Nat.le_of_ble_eq_true rfl) (Nat.le_of_ble_eq_true rfl) (kk _ _ _ _ _ hw)
set_option maxHeartbeats 4000000 in
set_option maxRecDepth 100000 in
theorem lw_case10 (X : mX Γ p m c code 4 s #[Value.ref b] RL (fun q => s.heap.size ≤ q)) (hX : va_X b L xs s s.heap) (hbl : b < s.heap.size) (hL : L < 2 ^ 31) (hi : i = nI k) (hk : k + 5 < L) (hw : lwW Γ s LC MC LR (rM Γ LR (xz f)) H) (hF : cFr Γ LC MC) (hM : 0 < MC.2.length) (hf : ∀ j, j < 40 → f j = -1) (hq0 : LC (nm 0 0) = q0) (hl : lv_has ls 4 [(3, .int i), (2, .ref (LR (.inl 0))), (1, .ref q0), (0, .ref b)]) (kk : lwK p l e s m below meth c Q ls Γ b) : W p l e room_1 s m #[Value.ref b] below meth c H [] 123 9537 Q (F0 m 510 ls []) := by
  have hx := X.1.1
  have hb := X.1.2.1
  have hbA : ¬ (fun q => s.heap.size ≤ q) b := Nat.not_le.mpr hbl
  obtain ⟨hc0, hc1, hc2, hc3, hc5, hc6, hc7, hc8, hc9, hc10, hc11, -⟩ := hF
  refine lv_aload_n hx hb dL_law_510 rfl (lv_at hl 2 rfl) ?_
  refine lv_aload_n hx hb dL_law_511 rfl (lv_at hl 3 rfl) ?_
  refine lv_iload_n hx hb dL_law_512 rfl (lv_at hl 0 rfl) ?_
  refine lv_iconst (v := 1) hx hb dL_law_513 (by decide) ?_
  refine lv_iadd hx hb dL_law_514 ?_
  refine va_sld hx hb hX hbl hbA hw.S (lw_in (j := 1) hi rfl (by omega) hL) dL_law_515 ?_
  refine lv_aload_n hx hb dL_law_516 rfl (lv_at hl 3 rfl) ?_
  refine lv_iload_n hx hb dL_law_517 rfl (lv_at hl 0 rfl) ?_
  refine lv_iconst (v := 2) hx hb dL_law_518 (by decide) ?_
  refine lv_iadd hx hb dL_law_519 ?_
  refine va_sld hx hb hX hbl hbA hw.S (lw_in (j := 2) hi rfl (by omega) hL) dL_law_520 ?_
  refine lv_aload_n hx hb dL_law_521 rfl (lv_at hl 3 rfl) ?_
  refine lv_iload_n hx hb dL_law_522 rfl (lv_at hl 0 rfl) ?_
  refine lv_iconst (v := 3) hx hb dL_law_523 (by decide) ?_
  refine lv_iadd hx hb dL_law_524 ?_
  refine va_sld hx hb hX hbl hbA hw.S (lw_in (j := 3) hi rfl (by omega) hL) dL_law_525 ?_
  refine lv_aload_n hx hb dL_law_526 rfl (lv_at hl 3 rfl) ?_
  refine lv_iload_n hx hb dL_law_527 rfl (lv_at hl 0 rfl) ?_
  refine lv_iconst (v := 4) hx hb dL_law_528 (by decide) ?_
  refine lv_iadd hx hb dL_law_529 ?_
  refine va_sld hx hb hX hbl hbA hw.S (lw_in (j := 4) hi rfl (by omega) hL) dL_law_530 ?_
  refine lv_aload_n hx hb dL_law_531 rfl (lv_at hl 3 rfl) ?_
  refine lv_iload_n hx hb dL_law_532 rfl (lv_at hl 0 rfl) ?_
  refine lv_iconst (v := 5) hx hb dL_law_533 (by decide) ?_
  refine lv_iadd hx hb dL_law_534 ?_
  refine va_sld hx hb hX hbl hbA hw.S (lw_in (j := 5) hi rfl (by omega) hL) dL_law_535 ?_
  refine lw_callC (i := nm 0 0) (ci := 7) (As := [.int (xs (i + 1).toNatClampNeg), .int (xs (i + 2).toNatClampNeg), .int (xs (i + 3).toNatClampNeg), .int (xs (i + 4).toNatClampNeg), .int (xs (i + 5).toNatClampNeg)]) (rest := []) X hw (k_X9_run Γ l LC MC (xs (i + 1).toNatClampNeg) (xs (i + 2).toNatClampNeg) (xs (i + 3).toNatClampNeg) (xs (i + 4).toNatClampNeg) (xs (i + 5).toNatClampNeg) q0 hq0 hc0 hc1 hc2 hM) hq0 v_X9_run ml_L_63 hc0 rfl rfl rfl hl.1 ⟨Nat.le_of_ble_eq_true rfl, Nat.le_of_ble_eq_true rfl⟩ (Nat.le_of_ble_eq_true rfl) ⟨Nat.le_of_ble_eq_true rfl, Nat.le_of_ble_eq_true rfl⟩ dL_law_536 (fun v1 LC1 MC1 H1 hp1 hw => ?_)
  have hv1 := hp1.1
  refine lv_aload_n hx hb dL_law_539 rfl (lv_at hl 1 rfl) ?_
  refine lv_aload_n hx hb dL_law_540 rfl (lv_at hl 3 rfl) ?_
  refine lv_iload_n hx hb dL_law_541 rfl (lv_at hl 0 rfl) ?_
  refine lv_iconst (v := 1) hx hb dL_law_542 (by decide) ?_
  refine lv_iadd hx hb dL_law_543 ?_
  refine va_sld hx hb hX hbl hbA hw.S (lw_in (j := 1) hi rfl (by omega) hL) dL_law_544 ?_
  refine lv_aload_n hx hb dL_law_545 rfl (lv_at hl 3 rfl) ?_
  refine lv_iload_n hx hb dL_law_546 rfl (lv_at hl 0 rfl) ?_
  refine lv_iconst (v := 2) hx hb dL_law_547 (by decide) ?_
  refine lv_iadd hx hb dL_law_548 ?_
  refine va_sld hx hb hX hbl hbA hw.S (lw_in (j := 2) hi rfl (by omega) hL) dL_law_549 ?_
  refine lv_aload_n hx hb dL_law_550 rfl (lv_at hl 3 rfl) ?_
  refine lv_iload_n hx hb dL_law_551 rfl (lv_at hl 0 rfl) ?_
  refine lv_iconst (v := 3) hx hb dL_law_552 (by decide) ?_
  refine lv_iadd hx hb dL_law_553 ?_
  refine va_sld hx hb hX hbl hbA hw.S (lw_in (j := 3) hi rfl (by omega) hL) dL_law_554 ?_
  refine lv_aload_n hx hb dL_law_555 rfl (lv_at hl 3 rfl) ?_
  refine lv_iload_n hx hb dL_law_556 rfl (lv_at hl 0 rfl) ?_
  refine lv_iconst (v := 4) hx hb dL_law_557 (by decide) ?_
  refine lv_iadd hx hb dL_law_558 ?_
  refine va_sld hx hb hX hbl hbA hw.S (lw_in (j := 4) hi rfl (by omega) hL) dL_law_559 ?_
  refine lv_aload_n hx hb dL_law_560 rfl (lv_at hl 3 rfl) ?_
  refine lv_iload_n hx hb dL_law_561 rfl (lv_at hl 0 rfl) ?_
  refine lv_iconst (v := 5) hx hb dL_law_562 (by decide) ?_
  refine lv_iadd hx hb dL_law_563 ?_
  refine va_sld hx hb hX hbl hbA hw.S (lw_in (j := 5) hi rfl (by omega) hL) dL_law_564 ?_
  refine lw_callR (i := .inl 0) (ci := 8) (As := [.int (xs (i + 1).toNatClampNeg), .int (xs (i + 2).toNatClampNeg), .int (xs (i + 3).toNatClampNeg), .int (xs (i + 4).toNatClampNeg), .int (xs (i + 5).toNatClampNeg)]) (rest := [.int v1]) X hw (k_X10_run Γ l LR (xz f) (xs (i + 1).toNatClampNeg) (xs (i + 2).toNatClampNeg) (xs (i + 3).toNatClampNeg) (xs (i + 4).toNatClampNeg) (xs (i + 5).toNatClampNeg) rfl) rfl v_X10_run ml_L_66 rfl rfl rfl rfl hl.1 ⟨Nat.le_of_ble_eq_true rfl, Nat.le_of_ble_eq_true rfl⟩ (Nat.le_of_ble_eq_true rfl) ⟨Nat.le_of_ble_eq_true rfl, Nat.le_of_ble_eq_true rfl⟩ dL_law_565 (fun v2 LR1 MR1 H2 hp2 hw => ?_)
  have hv2 := hp2.1
  refine lv_icmp_eq (tgt := 642) hx hb dL_law_568 (by decide) (fun _ => ?_) (fun z => absurd (hv1.trans hv2.symm) z)
  exact W.widen (k := 200) (n := 20000) (Nat.le_of_ble_eq_true rfl) (Nat.le_of_ble_eq_true rfl) (kk _ _ _ _ _ hw)
set_option maxHeartbeats 4000000 in
set_option maxRecDepth 100000 in
theorem lw_case11 (X : mX Γ p m c code 4 s #[Value.ref b] RL (fun q => s.heap.size ≤ q)) (hX : va_X b L xs s s.heap) (hbl : b < s.heap.size) (hL : L < 2 ^ 31) (hi : i = nI k) (hk : k + 5 < L) (hw : lwW Γ s LC MC LR (rM Γ LR (xz f)) H) (hF : cFr Γ LC MC) (hM : 0 < MC.2.length) (hf : ∀ j, j < 40 → f j = -1) (hq0 : LC (nm 0 0) = q0) (hl : lv_has ls 4 [(3, .int i), (2, .ref (LR (.inl 0))), (1, .ref q0), (0, .ref b)]) (kk : lwK p l e s m below meth c Q ls Γ b) : W p l e room_1 s m #[Value.ref b] below meth c H [] 123 9537 Q (F0 m 573 ls []) := by
  have hx := X.1.1
  have hb := X.1.2.1
  have hbA : ¬ (fun q => s.heap.size ≤ q) b := Nat.not_le.mpr hbl
  obtain ⟨hc0, hc1, hc2, hc3, hc5, hc6, hc7, hc8, hc9, hc10, hc11, -⟩ := hF
  refine lv_aload_n hx hb dL_law_573 rfl (lv_at hl 2 rfl) ?_
  refine lw_callC (i := nm 0 0) (ci := 7) (As := []) (rest := []) X hw (k_X9_answer Γ l LC MC  q0 hq0 hc0 hc10 hM) hq0 v_X9_answer ml_L_67 hc0 rfl rfl rfl hl.1 ⟨Nat.le_of_ble_eq_true rfl, Nat.le_of_ble_eq_true rfl⟩ (Nat.le_of_ble_eq_true rfl) ⟨Nat.le_of_ble_eq_true rfl, Nat.le_of_ble_eq_true rfl⟩ dL_law_574 (fun v1 LC1 MC1 H1 hp1 hw => ?_)
  have hv1 := hp1.1
  refine lv_aload_n hx hb dL_law_577 rfl (lv_at hl 1 rfl) ?_
  refine lw_callR (i := .inl 0) (ci := 8) (As := []) (rest := [.int v1]) X hw (k_X10_answer Γ l LR (xz f)  ) rfl v_X10_answer ml_L_70 rfl rfl rfl rfl hl.1 ⟨Nat.le_of_ble_eq_true rfl, Nat.le_of_ble_eq_true rfl⟩ (Nat.le_of_ble_eq_true rfl) ⟨Nat.le_of_ble_eq_true rfl, Nat.le_of_ble_eq_true rfl⟩ dL_law_578 (fun v2 LR1 MR1 H2 hp2 hw => ?_)
  have hv2 := hp2.1
  refine lv_icmp_eq (tgt := 642) hx hb dL_law_581 (by decide) (fun _ => ?_) (fun z => absurd (hv1.trans ((rfl).trans hv2.symm)) z)
  exact W.widen (k := 200) (n := 20000) (Nat.le_of_ble_eq_true rfl) (Nat.le_of_ble_eq_true rfl) (kk _ _ _ _ _ hw)
set_option maxHeartbeats 4000000 in
set_option maxRecDepth 100000 in
theorem lw_case12 (X : mX Γ p m c code 4 s #[Value.ref b] RL (fun q => s.heap.size ≤ q)) (hX : va_X b L xs s s.heap) (hbl : b < s.heap.size) (hL : L < 2 ^ 31) (hi : i = nI k) (hk : k + 5 < L) (hw : lwW Γ s LC MC LR (rM Γ LR (xz f)) H) (hF : cFr Γ LC MC) (hM : 0 < MC.2.length) (hf : ∀ j, j < 40 → f j = -1) (hq0 : LC (nm 0 0) = q0) (hl : lv_has ls 4 [(3, .int i), (2, .ref (LR (.inl 0))), (1, .ref q0), (0, .ref b)]) (kk : lwK p l e s m below meth c Q ls Γ b) : W p l e room_1 s m #[Value.ref b] below meth c H [] 123 9537 Q (F0 m 586 ls []) := by
  have hx := X.1.1
  have hb := X.1.2.1
  have hbA : ¬ (fun q => s.heap.size ≤ q) b := Nat.not_le.mpr hbl
  obtain ⟨hc0, hc1, hc2, hc3, hc5, hc6, hc7, hc8, hc9, hc10, hc11, -⟩ := hF
  refine lv_aload_n hx hb dL_law_586 rfl (lv_at hl 2 rfl) ?_
  refine lv_aload_n hx hb dL_law_587 rfl (lv_at hl 3 rfl) ?_
  refine lv_iload_n hx hb dL_law_588 rfl (lv_at hl 0 rfl) ?_
  refine lv_iconst (v := 1) hx hb dL_law_589 (by decide) ?_
  refine lv_iadd hx hb dL_law_590 ?_
  refine va_sld hx hb hX hbl hbA hw.S (lw_in (j := 1) hi rfl (by omega) hL) dL_law_591 ?_
  refine lw_callC (i := nm 0 0) (ci := 7) (As := [.int (xs (i + 1).toNatClampNeg)]) (rest := []) X hw (k_X9_told Γ l LC MC (xs (i + 1).toNatClampNeg) q0 hq0 hc0 hc10 hc11 hM) hq0 v_X9_told ml_L_71 hc0 rfl rfl rfl hl.1 ⟨Nat.le_of_ble_eq_true rfl, Nat.le_of_ble_eq_true rfl⟩ (Nat.le_of_ble_eq_true rfl) ⟨Nat.le_of_ble_eq_true rfl, Nat.le_of_ble_eq_true rfl⟩ dL_law_592 (fun v1 LC1 MC1 H1 hp1 hw => ?_)
  have hv1 := hp1.1
  refine lv_aload_n hx hb dL_law_595 rfl (lv_at hl 1 rfl) ?_
  refine lv_aload_n hx hb dL_law_596 rfl (lv_at hl 3 rfl) ?_
  refine lv_iload_n hx hb dL_law_597 rfl (lv_at hl 0 rfl) ?_
  refine lv_iconst (v := 1) hx hb dL_law_598 (by decide) ?_
  refine lv_iadd hx hb dL_law_599 ?_
  refine va_sld hx hb hX hbl hbA hw.S (lw_in (j := 1) hi rfl (by omega) hL) dL_law_600 ?_
  refine lw_callR (i := .inl 0) (ci := 8) (As := [.int (xs (i + 1).toNatClampNeg)]) (rest := [.int v1]) X hw (k_X10_told Γ l LR (xz f) (xs (i + 1).toNatClampNeg) ) rfl v_X10_told ml_L_74 rfl rfl rfl rfl hl.1 ⟨Nat.le_of_ble_eq_true rfl, Nat.le_of_ble_eq_true rfl⟩ (Nat.le_of_ble_eq_true rfl) ⟨Nat.le_of_ble_eq_true rfl, Nat.le_of_ble_eq_true rfl⟩ dL_law_601 (fun v2 LR1 MR1 H2 hp2 hw => ?_)
  have hv2 := hp2.1
  refine lv_icmp_eq (tgt := 642) hx hb dL_law_604 (by decide) (fun _ => ?_) (fun z => absurd (hv1.trans ((f_told_eq _ _).trans hv2.symm)) z)
  exact W.widen (k := 200) (n := 20000) (Nat.le_of_ble_eq_true rfl) (Nat.le_of_ble_eq_true rfl) (kk _ _ _ _ _ hw)
set_option maxHeartbeats 4000000 in
set_option maxRecDepth 100000 in
theorem lw_case13 (X : mX Γ p m c code 4 s #[Value.ref b] RL (fun q => s.heap.size ≤ q)) (hX : va_X b L xs s s.heap) (hbl : b < s.heap.size) (hL : L < 2 ^ 31) (hi : i = nI k) (hk : k + 5 < L) (hw : lwW Γ s LC MC LR (rM Γ LR (xz f)) H) (hF : cFr Γ LC MC) (hM : 0 < MC.2.length) (hf : ∀ j, j < 40 → f j = -1) (hq0 : LC (nm 0 0) = q0) (hl : lv_has ls 4 [(3, .int i), (2, .ref (LR (.inl 0))), (1, .ref q0), (0, .ref b)]) (kk : lwK p l e s m below meth c Q ls Γ b) : W p l e room_1 s m #[Value.ref b] below meth c H [] 123 9537 Q (F0 m 609 ls []) := by
  have hx := X.1.1
  have hb := X.1.2.1
  have hbA : ¬ (fun q => s.heap.size ≤ q) b := Nat.not_le.mpr hbl
  obtain ⟨hc0, hc1, hc2, hc3, hc5, hc6, hc7, hc8, hc9, hc10, hc11, -⟩ := hF
  refine lv_aload_n hx hb dL_law_609 rfl (lv_at hl 2 rfl) ?_
  refine lv_aload_n hx hb dL_law_610 rfl (lv_at hl 3 rfl) ?_
  refine lv_iload_n hx hb dL_law_611 rfl (lv_at hl 0 rfl) ?_
  refine lv_iconst (v := 1) hx hb dL_law_612 (by decide) ?_
  refine lv_iadd hx hb dL_law_613 ?_
  refine va_sld hx hb hX hbl hbA hw.S (lw_in (j := 1) hi rfl (by omega) hL) dL_law_614 ?_
  refine lv_aload_n hx hb dL_law_615 rfl (lv_at hl 3 rfl) ?_
  refine lv_iload_n hx hb dL_law_616 rfl (lv_at hl 0 rfl) ?_
  refine lv_iconst (v := 2) hx hb dL_law_617 (by decide) ?_
  refine lv_iadd hx hb dL_law_618 ?_
  refine va_sld hx hb hX hbl hbA hw.S (lw_in (j := 2) hi rfl (by omega) hL) dL_law_619 ?_
  refine lw_callC (i := nm 0 0) (ci := 7) (As := [.int (xs (i + 1).toNatClampNeg), .int (xs (i + 2).toNatClampNeg)]) (rest := []) X hw (k_X9_count Γ l LC MC (xs (i + 1).toNatClampNeg) (xs (i + 2).toNatClampNeg) q0 hq0 hc0 hc1 hc2 hM) hq0 v_X9_count ml_L_75 hc0 rfl rfl rfl hl.1 ⟨Nat.le_of_ble_eq_true rfl, Nat.le_of_ble_eq_true rfl⟩ (Nat.le_of_ble_eq_true rfl) ⟨Nat.le_of_ble_eq_true rfl, Nat.le_of_ble_eq_true rfl⟩ dL_law_620 (fun v1 LC1 MC1 H1 hp1 hw => ?_)
  have hv1 := hp1.1
  refine lv_aload_n hx hb dL_law_623 rfl (lv_at hl 1 rfl) ?_
  refine lv_aload_n hx hb dL_law_624 rfl (lv_at hl 3 rfl) ?_
  refine lv_iload_n hx hb dL_law_625 rfl (lv_at hl 0 rfl) ?_
  refine lv_iconst (v := 1) hx hb dL_law_626 (by decide) ?_
  refine lv_iadd hx hb dL_law_627 ?_
  refine va_sld hx hb hX hbl hbA hw.S (lw_in (j := 1) hi rfl (by omega) hL) dL_law_628 ?_
  refine lv_aload_n hx hb dL_law_629 rfl (lv_at hl 3 rfl) ?_
  refine lv_iload_n hx hb dL_law_630 rfl (lv_at hl 0 rfl) ?_
  refine lv_iconst (v := 2) hx hb dL_law_631 (by decide) ?_
  refine lv_iadd hx hb dL_law_632 ?_
  refine va_sld hx hb hX hbl hbA hw.S (lw_in (j := 2) hi rfl (by omega) hL) dL_law_633 ?_
  refine lw_callR (i := .inl 0) (ci := 8) (As := [.int (xs (i + 1).toNatClampNeg), .int (xs (i + 2).toNatClampNeg)]) (rest := [.int v1]) X hw (k_X10_count Γ l LR (xz f) (xs (i + 1).toNatClampNeg) (xs (i + 2).toNatClampNeg) 0 rfl (by decide)) rfl v_X10_count ml_L_78 rfl rfl rfl rfl hl.1 ⟨Nat.le_of_ble_eq_true rfl, Nat.le_of_ble_eq_true rfl⟩ (Nat.le_of_ble_eq_true rfl) ⟨Nat.le_of_ble_eq_true rfl, Nat.le_of_ble_eq_true rfl⟩ dL_law_634 (fun v2 LR1 MR1 H2 hp2 hw => ?_)
  have hv2 := hp2.1
  refine lv_icmp_eq (tgt := 642) hx hb dL_law_637 (by decide) (fun _ => ?_) (fun z => absurd (hv1.trans ((f_count_eq _ _ _).trans hv2.symm)) z)
  exact W.widen (k := 200) (n := 20000) (Nat.le_of_ble_eq_true rfl) (Nat.le_of_ble_eq_true rfl) (kk _ _ _ _ _ hw)
end LC
