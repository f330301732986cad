/-! THE LAW'S LOOP -/
theorem law_stop {p : Program} {l : Launch} {e : Env} {s : State} {m : MethodId} {below : List Frame} {meth : Method} {c : Code} {w : zW} {b Ln : Nat} {xs : Nat → Int32} (C : zC p s m #[Value.ref b] meth c code 4 "RoundPlansLaw" w LL CC) (hX : va_X b Ln xs s s.heap) (hbl : b < s.heap.size) (hbA : ¬ zA w LL.1 s.heap.size b) (hLn : Ln ≤ 2560) {j : Nat} (hj : j + 5 ≤ Ln) {σ : Nat → Nat → Int} (hR : Rel σ) (ih : ∀ σ2, Rel σ2 → V p l e room_1 s m #[Value.ref b] below meth c 4 w LL CC 55 4090 (lw_Z below #[Value.ref b] s) 18 [(0, .ref b), (1, .ref (w.1 0)), (2, .ref (w.1 32)), (3, .int (zI ((j : Int) + 5)))] [] σ2) : V p l e room_1 s m #[Value.ref b] below meth c 4 w LL CC 55 4090 (lw_Z below #[Value.ref b] s) 108 [(0, .ref b), (1, .ref (w.1 0)), (2, .ref (w.1 32)), (3, .int (zI (j : Int)))] [] σ := by
  obtain ⟨z, σ1, σ2, h1, h2, hR2⟩ := k_stop hR l w ((xs (j + 1)).toInt) (rI_x _)
  refine V_aload_n C d_lw_law_108 1 rfl ?_
  refine V_aload_n C d_lw_law_109 0 rfl ?_
  refine V_iload_n C d_lw_law_110 3 rfl ?_
  refine V_iconst C d_lw_law_111 ?_
  refine V_iadd C d_lw_law_112 ?_
  refine V_sld C hX hbl hbA (j + 1) (by omega) (by omega) (by omega) d_lw_law_113 ?_
  refine V_callVi C 0 (by decide) rfl rfl h1 wd_210 wd_211 wd_212 wd_1 wd_213 o_rp_stop ⟨rfl, rfl, Nat.le_of_ble_eq_true rfl, Nat.le_of_ble_eq_true rfl⟩ rfl rfl (Nat.le_of_ble_eq_true rfl) d_lw_law_114 ⟨Nat.le_of_ble_eq_true rfl, Nat.le_of_ble_eq_true rfl⟩ ?_
  refine V_aload_n C d_lw_law_117 2 rfl ?_
  refine V_aload_n C d_lw_law_118 0 rfl ?_
  refine V_iload_n C d_lw_law_119 3 rfl ?_
  refine V_iconst C d_lw_law_120 ?_
  refine V_iadd C d_lw_law_121 ?_
  refine V_sld C hX hbl hbA (j + 1) (by omega) (by omega) (by omega) d_lw_law_122 ?_
  refine V_callVi C 32 (by decide) rfl rfl h2 wd_540 wd_541 wd_542 wd_7 wd_543 o_md_stop ⟨rfl, rfl, Nat.le_of_ble_eq_true rfl, Nat.le_of_ble_eq_true rfl⟩ rfl rfl (Nat.le_of_ble_eq_true rfl) d_lw_law_123 ⟨Nat.le_of_ble_eq_true rfl, Nat.le_of_ble_eq_true rfl⟩ ?_
  refine V_same C 621 d_lw_law_126 (by decide) ?_
  refine V_iinc (lv' := [(3, _), (0, _), (1, _), (2, _)]) C d_lw_law_621 3 rfl (by decide) rfl ?_
  refine V_goto C 18 d_lw_law_624 (by decide) ?_
  refine V_sub (lv' := [(0, _), (1, _), (2, _), (3, _)]) [1, 2, 3, 0] rfl ?_
  exact ih σ2 hR2
theorem law_hours {p : Program} {l : Launch} {e : Env} {s : State} {m : MethodId} {below : List Frame} {meth : Method} {c : Code} {w : zW} {b Ln : Nat} {xs : Nat → Int32} (C : zC p s m #[Value.ref b] meth c code 4 "RoundPlansLaw" w LL CC) (hX : va_X b Ln xs s s.heap) (hbl : b < s.heap.size) (hbA : ¬ zA w LL.1 s.heap.size b) (hLn : Ln ≤ 2560) {j : Nat} (hj : j + 5 ≤ Ln) {σ : Nat → Nat → Int} (hR : Rel σ) (ih : ∀ σ2, Rel σ2 → V p l e room_1 s m #[Value.ref b] below meth c 4 w LL CC 55 4090 (lw_Z below #[Value.ref b] s) 18 [(0, .ref b), (1, .ref (w.1 0)), (2, .ref (w.1 32)), (3, .int (zI ((j : Int) + 5)))] [] σ2) : V p l e room_1 s m #[Value.ref b] below meth c 4 w LL CC 55 4090 (lw_Z below #[Value.ref b] s) 131 [(0, .ref b), (1, .ref (w.1 0)), (2, .ref (w.1 32)), (3, .int (zI (j : Int)))] [] σ := by
  obtain ⟨z, σ1, σ2, h1, h2, hR2⟩ := k_hours hR l w ((xs (j + 1)).toInt) ((xs (j + 2)).toInt) ((xs (j + 3)).toInt) ((xs (j + 4)).toInt) (rI_x _) (rI_x _) (rI_x _) (rI_x _)
  refine V_aload_n C d_lw_law_131 1 rfl ?_
  refine V_aload_n C d_lw_law_132 0 rfl ?_
  refine V_iload_n C d_lw_law_133 3 rfl ?_
  refine V_iconst C d_lw_law_134 ?_
  refine V_iadd C d_lw_law_135 ?_
  refine V_sld C hX hbl hbA (j + 1) (by omega) (by omega) (by omega) d_lw_law_136 ?_
  refine V_aload_n C d_lw_law_137 0 rfl ?_
  refine V_iload_n C d_lw_law_138 3 rfl ?_
  refine V_iconst C d_lw_law_139 ?_
  refine V_iadd C d_lw_law_140 ?_
  refine V_sld C hX hbl hbA (j + 2) (by omega) (by omega) (by omega) d_lw_law_141 ?_
  refine V_aload_n C d_lw_law_142 0 rfl ?_
  refine V_iload_n C d_lw_law_143 3 rfl ?_
  refine V_iconst C d_lw_law_144 ?_
  refine V_iadd C d_lw_law_145 ?_
  refine V_sld C hX hbl hbA (j + 3) (by omega) (by omega) (by omega) d_lw_law_146 ?_
  refine V_aload_n C d_lw_law_147 0 rfl ?_
  refine V_iload_n C d_lw_law_148 3 rfl ?_
  refine V_iconst C d_lw_law_149 ?_
  refine V_iadd C d_lw_law_150 ?_
  refine V_sld C hX hbl hbA (j + 4) (by omega) (by omega) (by omega) d_lw_law_151 ?_
  refine V_callVi C 0 (by decide) rfl rfl h1 wd_222 wd_223 wd_224 wd_1 wd_225 o_rp_hours ⟨rfl, rfl, Nat.le_of_ble_eq_true rfl, Nat.le_of_ble_eq_true rfl⟩ rfl rfl (Nat.le_of_ble_eq_true rfl) d_lw_law_152 ⟨Nat.le_of_ble_eq_true rfl, Nat.le_of_ble_eq_true rfl⟩ ?_
  refine V_aload_n C d_lw_law_155 2 rfl ?_
  refine V_aload_n C d_lw_law_156 0 rfl ?_
  refine V_iload_n C d_lw_law_157 3 rfl ?_
  refine V_iconst C d_lw_law_158 ?_
  refine V_iadd C d_lw_law_159 ?_
  refine V_sld C hX hbl hbA (j + 1) (by omega) (by omega) (by omega) d_lw_law_160 ?_
  refine V_aload_n C d_lw_law_161 0 rfl ?_
  refine V_iload_n C d_lw_law_162 3 rfl ?_
  refine V_iconst C d_lw_law_163 ?_
  refine V_iadd C d_lw_law_164 ?_
  refine V_sld C hX hbl hbA (j + 2) (by omega) (by omega) (by omega) d_lw_law_165 ?_
  refine V_aload_n C d_lw_law_166 0 rfl ?_
  refine V_iload_n C d_lw_law_167 3 rfl ?_
  refine V_iconst C d_lw_law_168 ?_
  refine V_iadd C d_lw_law_169 ?_
  refine V_sld C hX hbl hbA (j + 3) (by omega) (by omega) (by omega) d_lw_law_170 ?_
  refine V_aload_n C d_lw_law_171 0 rfl ?_
  refine V_iload_n C d_lw_law_172 3 rfl ?_
  refine V_iconst C d_lw_law_173 ?_
  refine V_iadd C d_lw_law_174 ?_
  refine V_sld C hX hbl hbA (j + 4) (by omega) (by omega) (by omega) d_lw_law_175 ?_
  refine V_callVi C 32 (by decide) rfl rfl h2 wd_549 wd_550 wd_551 wd_7 wd_552 o_md_hours ⟨rfl, rfl, Nat.le_of_ble_eq_true rfl, Nat.le_of_ble_eq_true rfl⟩ rfl rfl (Nat.le_of_ble_eq_true rfl) d_lw_law_176 ⟨Nat.le_of_ble_eq_true rfl, Nat.le_of_ble_eq_true rfl⟩ ?_
  refine V_same C 621 d_lw_law_179 (by decide) ?_
  refine V_iinc (lv' := [(3, _), (0, _), (1, _), (2, _)]) C d_lw_law_621 3 rfl (by decide) rfl ?_
  refine V_goto C 18 d_lw_law_624 (by decide) ?_
  refine V_sub (lv' := [(0, _), (1, _), (2, _), (3, _)]) [1, 2, 3, 0] rfl ?_
  exact ih σ2 hR2
theorem law_penalty {p : Program} {l : Launch} {e : Env} {s : State} {m : MethodId} {below : List Frame} {meth : Method} {c : Code} {w : zW} {b Ln : Nat} {xs : Nat → Int32} (C : zC p s m #[Value.ref b] meth c code 4 "RoundPlansLaw" w LL CC) (hX : va_X b Ln xs s s.heap) (hbl : b < s.heap.size) (hbA : ¬ zA w LL.1 s.heap.size b) (hLn : Ln ≤ 2560) {j : Nat} (hj : j + 5 ≤ Ln) {σ : Nat → Nat → Int} (hR : Rel σ) (ih : ∀ σ2, Rel σ2 → V p l e room_1 s m #[Value.ref b] below meth c 4 w LL CC 55 4090 (lw_Z below #[Value.ref b] s) 18 [(0, .ref b), (1, .ref (w.1 0)), (2, .ref (w.1 32)), (3, .int (zI ((j : Int) + 5)))] [] σ2) : V p l e room_1 s m #[Value.ref b] below meth c 4 w LL CC 55 4090 (lw_Z below #[Value.ref b] s) 184 [(0, .ref b), (1, .ref (w.1 0)), (2, .ref (w.1 32)), (3, .int (zI (j : Int)))] [] σ := by
  obtain ⟨z, σ1, σ2, h1, h2, hR2⟩ := k_penalty hR l w ((xs (j + 1)).toInt) (((zI (xs (j + 2)).toInt).toInt64 <<< ((zI 32).toInt64 &&& 63) ||| (zI (xs (j + 3)).toInt).toInt64 &&& zL 4294967295).toInt) (rI_x _) (rL_x _)
  refine V_aload_n C d_lw_law_184 1 rfl ?_
  refine V_aload_n C d_lw_law_185 0 rfl ?_
  refine V_iload_n C d_lw_law_186 3 rfl ?_
  refine V_iconst C d_lw_law_187 ?_
  refine V_iadd C d_lw_law_188 ?_
  refine V_sld C hX hbl hbA (j + 1) (by omega) (by omega) (by omega) d_lw_law_189 ?_
  refine V_aload_n C d_lw_law_190 0 rfl ?_
  refine V_iload_n C d_lw_law_191 3 rfl ?_
  refine V_iconst C d_lw_law_192 ?_
  refine V_iadd C d_lw_law_193 ?_
  refine V_sld C hX hbl hbA (j + 2) (by omega) (by omega) (by omega) d_lw_law_194 ?_
  refine V_i2lx C d_lw_law_195 ?_
  refine V_bipush C d_lw_law_196 (by decide) ?_
  refine V_lshlx C d_lw_law_198 ?_
  refine V_aload_n C d_lw_law_199 0 rfl ?_
  refine V_iload_n C d_lw_law_200 3 rfl ?_
  refine V_iconst C d_lw_law_201 ?_
  refine V_iadd C d_lw_law_202 ?_
  refine V_sld C hX hbl hbA (j + 3) (by omega) (by omega) (by omega) d_lw_law_203 ?_
  refine V_i2lx C d_lw_law_204 ?_
  refine V_ldc2 C (4294967295) d_lw_law_205 wd_668 ?_
  refine V_landx C d_lw_law_208 ?_
  refine V_lorx C d_lw_law_209 ?_
  refine V_ly ?_
  refine V_callVi C 0 (by decide) rfl rfl h1 wd_234 wd_235 wd_236 wd_1 wd_237 o_rp_penalty ⟨rfl, rfl, Nat.le_of_ble_eq_true rfl, Nat.le_of_ble_eq_true rfl⟩ rfl rfl (Nat.le_of_ble_eq_true rfl) d_lw_law_210 ⟨Nat.le_of_ble_eq_true rfl, Nat.le_of_ble_eq_true rfl⟩ ?_
  refine V_aload_n C d_lw_law_213 2 rfl ?_
  refine V_aload_n C d_lw_law_214 0 rfl ?_
  refine V_iload_n C d_lw_law_215 3 rfl ?_
  refine V_iconst C d_lw_law_216 ?_
  refine V_iadd C d_lw_law_217 ?_
  refine V_sld C hX hbl hbA (j + 1) (by omega) (by omega) (by omega) d_lw_law_218 ?_
  refine V_aload_n C d_lw_law_219 0 rfl ?_
  refine V_iload_n C d_lw_law_220 3 rfl ?_
  refine V_iconst C d_lw_law_221 ?_
  refine V_iadd C d_lw_law_222 ?_
  refine V_sld C hX hbl hbA (j + 2) (by omega) (by omega) (by omega) d_lw_law_223 ?_
  refine V_i2lx C d_lw_law_224 ?_
  refine V_bipush C d_lw_law_225 (by decide) ?_
  refine V_lshlx C d_lw_law_227 ?_
  refine V_aload_n C d_lw_law_228 0 rfl ?_
  refine V_iload_n C d_lw_law_229 3 rfl ?_
  refine V_iconst C d_lw_law_230 ?_
  refine V_iadd C d_lw_law_231 ?_
  refine V_sld C hX hbl hbA (j + 3) (by omega) (by omega) (by omega) d_lw_law_232 ?_
  refine V_i2lx C d_lw_law_233 ?_
  refine V_ldc2 C (4294967295) d_lw_law_234 wd_668 ?_
  refine V_landx C d_lw_law_237 ?_
  refine V_lorx C d_lw_law_238 ?_
  refine V_ly ?_
  refine V_callVi C 32 (by decide) rfl rfl h2 wd_559 wd_560 wd_561 wd_7 wd_562 o_md_penalty ⟨rfl, rfl, Nat.le_of_ble_eq_true rfl, Nat.le_of_ble_eq_true rfl⟩ rfl rfl (Nat.le_of_ble_eq_true rfl) d_lw_law_239 ⟨Nat.le_of_ble_eq_true rfl, Nat.le_of_ble_eq_true rfl⟩ ?_
  refine V_same C 621 d_lw_law_242 (by decide) ?_
  refine V_iinc (lv' := [(3, _), (0, _), (1, _), (2, _)]) C d_lw_law_621 3 rfl (by decide) rfl ?_
  refine V_goto C 18 d_lw_law_624 (by decide) ?_
  refine V_sub (lv' := [(0, _), (1, _), (2, _), (3, _)]) [1, 2, 3, 0] rfl ?_
  exact ih σ2 hR2
theorem law_vehicle {p : Program} {l : Launch} {e : Env} {s : State} {m : MethodId} {below : List Frame} {meth : Method} {c : Code} {w : zW} {b Ln : Nat} {xs : Nat → Int32} (C : zC p s m #[Value.ref b] meth c code 4 "RoundPlansLaw" w LL CC) (hX : va_X b Ln xs s s.heap) (hbl : b < s.heap.size) (hbA : ¬ zA w LL.1 s.heap.size b) (hLn : Ln ≤ 2560) {j : Nat} (hj : j + 5 ≤ Ln) {σ : Nat → Nat → Int} (hR : Rel σ) (ih : ∀ σ2, Rel σ2 → V p l e room_1 s m #[Value.ref b] below meth c 4 w LL CC 55 4090 (lw_Z below #[Value.ref b] s) 18 [(0, .ref b), (1, .ref (w.1 0)), (2, .ref (w.1 32)), (3, .int (zI ((j : Int) + 5)))] [] σ2) : V p l e room_1 s m #[Value.ref b] below meth c 4 w LL CC 55 4090 (lw_Z below #[Value.ref b] s) 247 [(0, .ref b), (1, .ref (w.1 0)), (2, .ref (w.1 32)), (3, .int (zI (j : Int)))] [] σ := by
  obtain ⟨z, σ1, σ2, h1, h2, hR2⟩ := k_vehicle hR l w ((xs (j + 1)).toInt) ((xs (j + 2)).toInt) ((xs (j + 3)).toInt) ((xs (j + 4)).toInt) (rI_x _) (rI_x _) (rI_x _) (rI_x _)
  refine V_aload_n C d_lw_law_247 1 rfl ?_
  refine V_aload_n C d_lw_law_248 0 rfl ?_
  refine V_iload_n C d_lw_law_249 3 rfl ?_
  refine V_iconst C d_lw_law_250 ?_
  refine V_iadd C d_lw_law_251 ?_
  refine V_sld C hX hbl hbA (j + 1) (by omega) (by omega) (by omega) d_lw_law_252 ?_
  refine V_aload_n C d_lw_law_253 0 rfl ?_
  refine V_iload_n C d_lw_law_254 3 rfl ?_
  refine V_iconst C d_lw_law_255 ?_
  refine V_iadd C d_lw_law_256 ?_
  refine V_sld C hX hbl hbA (j + 2) (by omega) (by omega) (by omega) d_lw_law_257 ?_
  refine V_aload_n C d_lw_law_258 0 rfl ?_
  refine V_iload_n C d_lw_law_259 3 rfl ?_
  refine V_iconst C d_lw_law_260 ?_
  refine V_iadd C d_lw_law_261 ?_
  refine V_sld C hX hbl hbA (j + 3) (by omega) (by omega) (by omega) d_lw_law_262 ?_
  refine V_aload_n C d_lw_law_263 0 rfl ?_
  refine V_iload_n C d_lw_law_264 3 rfl ?_
  refine V_iconst C d_lw_law_265 ?_
  refine V_iadd C d_lw_law_266 ?_
  refine V_sld C hX hbl hbA (j + 4) (by omega) (by omega) (by omega) d_lw_law_267 ?_
  refine V_callVi C 0 (by decide) rfl rfl h1 wd_239 wd_240 wd_241 wd_1 wd_242 o_rp_vehicle ⟨rfl, rfl, Nat.le_of_ble_eq_true rfl, Nat.le_of_ble_eq_true rfl⟩ rfl rfl (Nat.le_of_ble_eq_true rfl) d_lw_law_268 ⟨Nat.le_of_ble_eq_true rfl, Nat.le_of_ble_eq_true rfl⟩ ?_
  refine V_aload_n C d_lw_law_271 2 rfl ?_
  refine V_aload_n C d_lw_law_272 0 rfl ?_
  refine V_iload_n C d_lw_law_273 3 rfl ?_
  refine V_iconst C d_lw_law_274 ?_
  refine V_iadd C d_lw_law_275 ?_
  refine V_sld C hX hbl hbA (j + 1) (by omega) (by omega) (by omega) d_lw_law_276 ?_
  refine V_aload_n C d_lw_law_277 0 rfl ?_
  refine V_iload_n C d_lw_law_278 3 rfl ?_
  refine V_iconst C d_lw_law_279 ?_
  refine V_iadd C d_lw_law_280 ?_
  refine V_sld C hX hbl hbA (j + 2) (by omega) (by omega) (by omega) d_lw_law_281 ?_
  refine V_aload_n C d_lw_law_282 0 rfl ?_
  refine V_iload_n C d_lw_law_283 3 rfl ?_
  refine V_iconst C d_lw_law_284 ?_
  refine V_iadd C d_lw_law_285 ?_
  refine V_sld C hX hbl hbA (j + 3) (by omega) (by omega) (by omega) d_lw_law_286 ?_
  refine V_aload_n C d_lw_law_287 0 rfl ?_
  refine V_iload_n C d_lw_law_288 3 rfl ?_
  refine V_iconst C d_lw_law_289 ?_
  refine V_iadd C d_lw_law_290 ?_
  refine V_sld C hX hbl hbA (j + 4) (by omega) (by omega) (by omega) d_lw_law_291 ?_
  refine V_callVi C 32 (by decide) rfl rfl h2 wd_564 wd_565 wd_566 wd_7 wd_567 o_md_vehicle ⟨rfl, rfl, Nat.le_of_ble_eq_true rfl, Nat.le_of_ble_eq_true rfl⟩ rfl rfl (Nat.le_of_ble_eq_true rfl) d_lw_law_292 ⟨Nat.le_of_ble_eq_true rfl, Nat.le_of_ble_eq_true rfl⟩ ?_
  refine V_same C 621 d_lw_law_295 (by decide) ?_
  refine V_iinc (lv' := [(3, _), (0, _), (1, _), (2, _)]) C d_lw_law_621 3 rfl (by decide) rfl ?_
  refine V_goto C 18 d_lw_law_624 (by decide) ?_
  refine V_sub (lv' := [(0, _), (1, _), (2, _), (3, _)]) [1, 2, 3, 0] rfl ?_
  exact ih σ2 hR2
theorem law_way {p : Program} {l : Launch} {e : Env} {s : State} {m : MethodId} {below : List Frame} {meth : Method} {c : Code} {w : zW} {b Ln : Nat} {xs : Nat → Int32} (C : zC p s m #[Value.ref b] meth c code 4 "RoundPlansLaw" w LL CC) (hX : va_X b Ln xs s s.heap) (hbl : b < s.heap.size) (hbA : ¬ zA w LL.1 s.heap.size b) (hLn : Ln ≤ 2560) {j : Nat} (hj : j + 5 ≤ Ln) {σ : Nat → Nat → Int} (hR : Rel σ) (ih : ∀ σ2, Rel σ2 → V p l e room_1 s m #[Value.ref b] below meth c 4 w LL CC 55 4090 (lw_Z below #[Value.ref b] s) 18 [(0, .ref b), (1, .ref (w.1 0)), (2, .ref (w.1 32)), (3, .int (zI ((j : Int) + 5)))] [] σ2) : V p l e room_1 s m #[Value.ref b] below meth c 4 w LL CC 55 4090 (lw_Z below #[Value.ref b] s) 300 [(0, .ref b), (1, .ref (w.1 0)), (2, .ref (w.1 32)), (3, .int (zI (j : Int)))] [] σ := by
  obtain ⟨z, σ1, σ2, h1, h2, hR2⟩ := k_way hR l w ((xs (j + 1)).toInt) ((xs (j + 2)).toInt) ((xs (j + 3)).toInt) (rI_x _) (rI_x _) (rI_x _)
  refine V_aload_n C d_lw_law_300 1 rfl ?_
  refine V_aload_n C d_lw_law_301 0 rfl ?_
  refine V_iload_n C d_lw_law_302 3 rfl ?_
  refine V_iconst C d_lw_law_303 ?_
  refine V_iadd C d_lw_law_304 ?_
  refine V_sld C hX hbl hbA (j + 1) (by omega) (by omega) (by omega) d_lw_law_305 ?_
  refine V_aload_n C d_lw_law_306 0 rfl ?_
  refine V_iload_n C d_lw_law_307 3 rfl ?_
  refine V_iconst C d_lw_law_308 ?_
  refine V_iadd C d_lw_law_309 ?_
  refine V_sld C hX hbl hbA (j + 2) (by omega) (by omega) (by omega) d_lw_law_310 ?_
  refine V_aload_n C d_lw_law_311 0 rfl ?_
  refine V_iload_n C d_lw_law_312 3 rfl ?_
  refine V_iconst C d_lw_law_313 ?_
  refine V_iadd C d_lw_law_314 ?_
  refine V_sld C hX hbl hbA (j + 3) (by omega) (by omega) (by omega) d_lw_law_315 ?_
  refine V_callVi C 0 (by decide) rfl rfl h1 wd_248 wd_249 wd_250 wd_1 wd_251 o_rp_way ⟨rfl, rfl, Nat.le_of_ble_eq_true rfl, Nat.le_of_ble_eq_true rfl⟩ rfl rfl (Nat.le_of_ble_eq_true rfl) d_lw_law_316 ⟨Nat.le_of_ble_eq_true rfl, Nat.le_of_ble_eq_true rfl⟩ ?_
  refine V_aload_n C d_lw_law_319 2 rfl ?_
  refine V_aload_n C d_lw_law_320 0 rfl ?_
  refine V_iload_n C d_lw_law_321 3 rfl ?_
  refine V_iconst C d_lw_law_322 ?_
  refine V_iadd C d_lw_law_323 ?_
  refine V_sld C hX hbl hbA (j + 1) (by omega) (by omega) (by omega) d_lw_law_324 ?_
  refine V_aload_n C d_lw_law_325 0 rfl ?_
  refine V_iload_n C d_lw_law_326 3 rfl ?_
  refine V_iconst C d_lw_law_327 ?_
  refine V_iadd C d_lw_law_328 ?_
  refine V_sld C hX hbl hbA (j + 2) (by omega) (by omega) (by omega) d_lw_law_329 ?_
  refine V_aload_n C d_lw_law_330 0 rfl ?_
  refine V_iload_n C d_lw_law_331 3 rfl ?_
  refine V_iconst C d_lw_law_332 ?_
  refine V_iadd C d_lw_law_333 ?_
  refine V_sld C hX hbl hbA (j + 3) (by omega) (by omega) (by omega) d_lw_law_334 ?_
  refine V_callVi C 32 (by decide) rfl rfl h2 wd_570 wd_571 wd_572 wd_7 wd_573 o_md_way ⟨rfl, rfl, Nat.le_of_ble_eq_true rfl, Nat.le_of_ble_eq_true rfl⟩ rfl rfl (Nat.le_of_ble_eq_true rfl) d_lw_law_335 ⟨Nat.le_of_ble_eq_true rfl, Nat.le_of_ble_eq_true rfl⟩ ?_
  refine V_same C 621 d_lw_law_338 (by decide) ?_
  refine V_iinc (lv' := [(3, _), (0, _), (1, _), (2, _)]) C d_lw_law_621 3 rfl (by decide) rfl ?_
  refine V_goto C 18 d_lw_law_624 (by decide) ?_
  refine V_sub (lv' := [(0, _), (1, _), (2, _), (3, _)]) [1, 2, 3, 0] rfl ?_
  exact ih σ2 hR2
theorem law_fixed {p : Program} {l : Launch} {e : Env} {s : State} {m : MethodId} {below : List Frame} {meth : Method} {c : Code} {w : zW} {b Ln : Nat} {xs : Nat → Int32} (C : zC p s m #[Value.ref b] meth c code 4 "RoundPlansLaw" w LL CC) (hX : va_X b Ln xs s s.heap) (hbl : b < s.heap.size) (hbA : ¬ zA w LL.1 s.heap.size b) (hLn : Ln ≤ 2560) {j : Nat} (hj : j + 5 ≤ Ln) {σ : Nat → Nat → Int} (hR : Rel σ) (ih : ∀ σ2, Rel σ2 → V p l e room_1 s m #[Value.ref b] below meth c 4 w LL CC 55 4090 (lw_Z below #[Value.ref b] s) 18 [(0, .ref b), (1, .ref (w.1 0)), (2, .ref (w.1 32)), (3, .int (zI ((j : Int) + 5)))] [] σ2) : V p l e room_1 s m #[Value.ref b] below meth c 4 w LL CC 55 4090 (lw_Z below #[Value.ref b] s) 343 [(0, .ref b), (1, .ref (w.1 0)), (2, .ref (w.1 32)), (3, .int (zI (j : Int)))] [] σ := by
  obtain ⟨z, σ1, σ2, h1, h2, hR2⟩ := k_fixed hR l w ((xs (j + 1)).toInt) ((xs (j + 2)).toInt) (rI_x _) (rI_x _)
  refine V_aload_n C d_lw_law_343 1 rfl ?_
  refine V_aload_n C d_lw_law_344 0 rfl ?_
  refine V_iload_n C d_lw_law_345 3 rfl ?_
  refine V_iconst C d_lw_law_346 ?_
  refine V_iadd C d_lw_law_347 ?_
  refine V_sld C hX hbl hbA (j + 1) (by omega) (by omega) (by omega) d_lw_law_348 ?_
  refine V_aload_n C d_lw_law_349 0 rfl ?_
  refine V_iload_n C d_lw_law_350 3 rfl ?_
  refine V_iconst C d_lw_law_351 ?_
  refine V_iadd C d_lw_law_352 ?_
  refine V_sld C hX hbl hbA (j + 2) (by omega) (by omega) (by omega) d_lw_law_353 ?_
  refine V_callVi C 0 (by decide) rfl rfl h1 wd_253 wd_254 wd_255 wd_1 wd_256 o_rp_fixed ⟨rfl, rfl, Nat.le_of_ble_eq_true rfl, Nat.le_of_ble_eq_true rfl⟩ rfl rfl (Nat.le_of_ble_eq_true rfl) d_lw_law_354 ⟨Nat.le_of_ble_eq_true rfl, Nat.le_of_ble_eq_true rfl⟩ ?_
  refine V_aload_n C d_lw_law_357 2 rfl ?_
  refine V_aload_n C d_lw_law_358 0 rfl ?_
  refine V_iload_n C d_lw_law_359 3 rfl ?_
  refine V_iconst C d_lw_law_360 ?_
  refine V_iadd C d_lw_law_361 ?_
  refine V_sld C hX hbl hbA (j + 1) (by omega) (by omega) (by omega) d_lw_law_362 ?_
  refine V_aload_n C d_lw_law_363 0 rfl ?_
  refine V_iload_n C d_lw_law_364 3 rfl ?_
  refine V_iconst C d_lw_law_365 ?_
  refine V_iadd C d_lw_law_366 ?_
  refine V_sld C hX hbl hbA (j + 2) (by omega) (by omega) (by omega) d_lw_law_367 ?_
  refine V_callVi C 32 (by decide) rfl rfl h2 wd_576 wd_577 wd_578 wd_7 wd_579 o_md_fixed ⟨rfl, rfl, Nat.le_of_ble_eq_true rfl, Nat.le_of_ble_eq_true rfl⟩ rfl rfl (Nat.le_of_ble_eq_true rfl) d_lw_law_368 ⟨Nat.le_of_ble_eq_true rfl, Nat.le_of_ble_eq_true rfl⟩ ?_
  refine V_same C 621 d_lw_law_371 (by decide) ?_
  refine V_iinc (lv' := [(3, _), (0, _), (1, _), (2, _)]) C d_lw_law_621 3 rfl (by decide) rfl ?_
  refine V_goto C 18 d_lw_law_624 (by decide) ?_
  refine V_sub (lv' := [(0, _), (1, _), (2, _), (3, _)]) [1, 2, 3, 0] rfl ?_
  exact ih σ2 hR2
theorem law_apart {p : Program} {l : Launch} {e : Env} {s : State} {m : MethodId} {below : List Frame} {meth : Method} {c : Code} {w : zW} {b Ln : Nat} {xs : Nat → Int32} (C : zC p s m #[Value.ref b] meth c code 4 "RoundPlansLaw" w LL CC) (hX : va_X b Ln xs s s.heap) (hbl : b < s.heap.size) (hbA : ¬ zA w LL.1 s.heap.size b) (hLn : Ln ≤ 2560) {j : Nat} (hj : j + 5 ≤ Ln) {σ : Nat → Nat → Int} (hR : Rel σ) (ih : ∀ σ2, Rel σ2 → V p l e room_1 s m #[Value.ref b] below meth c 4 w LL CC 55 4090 (lw_Z below #[Value.ref b] s) 18 [(0, .ref b), (1, .ref (w.1 0)), (2, .ref (w.1 32)), (3, .int (zI ((j : Int) + 5)))] [] σ2) : V p l e room_1 s m #[Value.ref b] below meth c 4 w LL CC 55 4090 (lw_Z below #[Value.ref b] s) 376 [(0, .ref b), (1, .ref (w.1 0)), (2, .ref (w.1 32)), (3, .int (zI (j : Int)))] [] σ := by
  by_cases hx : (xs (j + 3)).toInt = 0
  · obtain ⟨z, σ1, σ2, h1, h2, hR2⟩ := k_apart hR l w ((xs (j + 1)).toInt) ((xs (j + 2)).toInt) (0) (rI_x _) (rI_x _) (Or.inl rfl)
    refine V_aload_n C d_lw_law_376 1 rfl ?_
    refine V_aload_n C d_lw_law_377 0 rfl ?_
    refine V_iload_n C d_lw_law_378 3 rfl ?_
    refine V_iconst C d_lw_law_379 ?_
    refine V_iadd C d_lw_law_380 ?_
    refine V_sld C hX hbl hbA (j + 1) (by omega) (by omega) (by omega) d_lw_law_381 ?_
    refine V_aload_n C d_lw_law_382 0 rfl ?_
    refine V_iload_n C d_lw_law_383 3 rfl ?_
    refine V_iconst C d_lw_law_384 ?_
    refine V_iadd C d_lw_law_385 ?_
    refine V_sld C hX hbl hbA (j + 2) (by omega) (by omega) (by omega) d_lw_law_386 ?_
    refine V_aload_n C d_lw_law_387 0 rfl ?_
    refine V_iload_n C d_lw_law_388 3 rfl ?_
    refine V_iconst C d_lw_law_389 ?_
    refine V_iadd C d_lw_law_390 ?_
    refine V_sld C hX hbl hbA (j + 3) (by omega) (by omega) (by omega) d_lw_law_391 ?_
    refine V_ifeq C 399 d_lw_law_392 (by decide) (rI_x _) (fun _ => ?_) (fun hz => absurd hx hz)
    refine V_iconst C d_lw_law_399 ?_
    refine V_callVi C 0 (by decide) rfl rfl h1 wd_261 wd_262 wd_263 wd_1 wd_264 o_rp_apart ⟨rfl, rfl, Nat.le_of_ble_eq_true rfl, Nat.le_of_ble_eq_true rfl⟩ rfl rfl (Nat.le_of_ble_eq_true rfl) d_lw_law_400 ⟨Nat.le_of_ble_eq_true rfl, Nat.le_of_ble_eq_true rfl⟩ ?_
    refine V_aload_n C d_lw_law_403 2 rfl ?_
    refine V_aload_n C d_lw_law_404 0 rfl ?_
    refine V_iload_n C d_lw_law_405 3 rfl ?_
    refine V_iconst C d_lw_law_406 ?_
    refine V_iadd C d_lw_law_407 ?_
    refine V_sld C hX hbl hbA (j + 1) (by omega) (by omega) (by omega) d_lw_law_408 ?_
    refine V_aload_n C d_lw_law_409 0 rfl ?_
    refine V_iload_n C d_lw_law_410 3 rfl ?_
    refine V_iconst C d_lw_law_411 ?_
    refine V_iadd C d_lw_law_412 ?_
    refine V_sld C hX hbl hbA (j + 2) (by omega) (by omega) (by omega) d_lw_law_413 ?_
    refine V_aload_n C d_lw_law_414 0 rfl ?_
    refine V_iload_n C d_lw_law_415 3 rfl ?_
    refine V_iconst C d_lw_law_416 ?_
    refine V_iadd C d_lw_law_417 ?_
    refine V_sld C hX hbl hbA (j + 3) (by omega) (by omega) (by omega) d_lw_law_418 ?_
    refine V_ifeq C 426 d_lw_law_419 (by decide) (rI_x _) (fun _ => ?_) (fun hz => absurd hx hz)
    refine V_iconst C d_lw_law_426 ?_
    refine V_callVi C 32 (by decide) rfl rfl h2 wd_580 wd_581 wd_582 wd_7 wd_583 o_md_apart ⟨rfl, rfl, Nat.le_of_ble_eq_true rfl, Nat.le_of_ble_eq_true rfl⟩ rfl rfl (Nat.le_of_ble_eq_true rfl) d_lw_law_427 ⟨Nat.le_of_ble_eq_true rfl, Nat.le_of_ble_eq_true rfl⟩ ?_
    refine V_same C 621 d_lw_law_430 (by decide) ?_
    refine V_iinc (lv' := [(3, _), (0, _), (1, _), (2, _)]) C d_lw_law_621 3 rfl (by decide) rfl ?_
    refine V_goto C 18 d_lw_law_624 (by decide) ?_
    refine V_sub (lv' := [(0, _), (1, _), (2, _), (3, _)]) [1, 2, 3, 0] rfl ?_
    exact ih σ2 hR2
  · obtain ⟨z, σ1, σ2, h1, h2, hR2⟩ := k_apart hR l w ((xs (j + 1)).toInt) ((xs (j + 2)).toInt) (1) (rI_x _) (rI_x _) (Or.inr rfl)
    refine V_aload_n C d_lw_law_376 1 rfl ?_
    refine V_aload_n C d_lw_law_377 0 rfl ?_
    refine V_iload_n C d_lw_law_378 3 rfl ?_
    refine V_iconst C d_lw_law_379 ?_
    refine V_iadd C d_lw_law_380 ?_
    refine V_sld C hX hbl hbA (j + 1) (by omega) (by omega) (by omega) d_lw_law_381 ?_
    refine V_aload_n C d_lw_law_382 0 rfl ?_
    refine V_iload_n C d_lw_law_383 3 rfl ?_
    refine V_iconst C d_lw_law_384 ?_
    refine V_iadd C d_lw_law_385 ?_
    refine V_sld C hX hbl hbA (j + 2) (by omega) (by omega) (by omega) d_lw_law_386 ?_
    refine V_aload_n C d_lw_law_387 0 rfl ?_
    refine V_iload_n C d_lw_law_388 3 rfl ?_
    refine V_iconst C d_lw_law_389 ?_
    refine V_iadd C d_lw_law_390 ?_
    refine V_sld C hX hbl hbA (j + 3) (by omega) (by omega) (by omega) d_lw_law_391 ?_
    refine V_ifeq C 399 d_lw_law_392 (by decide) (rI_x _) (fun hz => absurd hz hx) (fun _ => ?_)
    refine V_iconst C d_lw_law_395 ?_
    refine V_goto C 400 d_lw_law_396 (by decide) ?_
    refine V_callVi C 0 (by decide) rfl rfl h1 wd_261 wd_262 wd_263 wd_1 wd_264 o_rp_apart ⟨rfl, rfl, Nat.le_of_ble_eq_true rfl, Nat.le_of_ble_eq_true rfl⟩ rfl rfl (Nat.le_of_ble_eq_true rfl) d_lw_law_400 ⟨Nat.le_of_ble_eq_true rfl, Nat.le_of_ble_eq_true rfl⟩ ?_
    refine V_aload_n C d_lw_law_403 2 rfl ?_
    refine V_aload_n C d_lw_law_404 0 rfl ?_
    refine V_iload_n C d_lw_law_405 3 rfl ?_
    refine V_iconst C d_lw_law_406 ?_
    refine V_iadd C d_lw_law_407 ?_
    refine V_sld C hX hbl hbA (j + 1) (by omega) (by omega) (by omega) d_lw_law_408 ?_
    refine V_aload_n C d_lw_law_409 0 rfl ?_
    refine V_iload_n C d_lw_law_410 3 rfl ?_
    refine V_iconst C d_lw_law_411 ?_
    refine V_iadd C d_lw_law_412 ?_
    refine V_sld C hX hbl hbA (j + 2) (by omega) (by omega) (by omega) d_lw_law_413 ?_
    refine V_aload_n C d_lw_law_414 0 rfl ?_
    refine V_iload_n C d_lw_law_415 3 rfl ?_
    refine V_iconst C d_lw_law_416 ?_
    refine V_iadd C d_lw_law_417 ?_
    refine V_sld C hX hbl hbA (j + 3) (by omega) (by omega) (by omega) d_lw_law_418 ?_
    refine V_ifeq C 426 d_lw_law_419 (by decide) (rI_x _) (fun hz => absurd hz hx) (fun _ => ?_)
    refine V_iconst C d_lw_law_422 ?_
    refine V_goto C 427 d_lw_law_423 (by decide) ?_
    refine V_callVi C 32 (by decide) rfl rfl h2 wd_580 wd_581 wd_582 wd_7 wd_583 o_md_apart ⟨rfl, rfl, Nat.le_of_ble_eq_true rfl, Nat.le_of_ble_eq_true rfl⟩ rfl rfl (Nat.le_of_ble_eq_true rfl) d_lw_law_427 ⟨Nat.le_of_ble_eq_true rfl, Nat.le_of_ble_eq_true rfl⟩ ?_
    refine V_same C 621 d_lw_law_430 (by decide) ?_
    refine V_iinc (lv' := [(3, _), (0, _), (1, _), (2, _)]) C d_lw_law_621 3 rfl (by decide) rfl ?_
    refine V_goto C 18 d_lw_law_624 (by decide) ?_
    refine V_sub (lv' := [(0, _), (1, _), (2, _), (3, _)]) [1, 2, 3, 0] rfl ?_
    exact ih σ2 hR2
theorem law_before {p : Program} {l : Launch} {e : Env} {s : State} {m : MethodId} {below : List Frame} {meth : Method} {c : Code} {w : zW} {b Ln : Nat} {xs : Nat → Int32} (C : zC p s m #[Value.ref b] meth c code 4 "RoundPlansLaw" w LL CC) (hX : va_X b Ln xs s s.heap) (hbl : b < s.heap.size) (hbA : ¬ zA w LL.1 s.heap.size b) (hLn : Ln ≤ 2560) {j : Nat} (hj : j + 5 ≤ Ln) {σ : Nat → Nat → Int} (hR : Rel σ) (ih : ∀ σ2, Rel σ2 → V p l e room_1 s m #[Value.ref b] below meth c 4 w LL CC 55 4090 (lw_Z below #[Value.ref b] s) 18 [(0, .ref b), (1, .ref (w.1 0)), (2, .ref (w.1 32)), (3, .int (zI ((j : Int) + 5)))] [] σ2) : V p l e room_1 s m #[Value.ref b] below meth c 4 w LL CC 55 4090 (lw_Z below #[Value.ref b] s) 435 [(0, .ref b), (1, .ref (w.1 0)), (2, .ref (w.1 32)), (3, .int (zI (j : Int)))] [] σ := by
  obtain ⟨z, σ1, σ2, h1, h2, hR2⟩ := k_before hR l w ((xs (j + 1)).toInt) ((xs (j + 2)).toInt) (rI_x _) (rI_x _)
  refine V_aload_n C d_lw_law_435 1 rfl ?_
  refine V_aload_n C d_lw_law_436 0 rfl ?_
  refine V_iload_n C d_lw_law_437 3 rfl ?_
  refine V_iconst C d_lw_law_438 ?_
  refine V_iadd C d_lw_law_439 ?_
  refine V_sld C hX hbl hbA (j + 1) (by omega) (by omega) (by omega) d_lw_law_440 ?_
  refine V_aload_n C d_lw_law_441 0 rfl ?_
  refine V_iload_n C d_lw_law_442 3 rfl ?_
  refine V_iconst C d_lw_law_443 ?_
  refine V_iadd C d_lw_law_444 ?_
  refine V_sld C hX hbl hbA (j + 2) (by omega) (by omega) (by omega) d_lw_law_445 ?_
  refine V_callVi C 0 (by decide) rfl rfl h1 wd_280 wd_281 wd_282 wd_1 wd_283 o_rp_before ⟨rfl, rfl, Nat.le_of_ble_eq_true rfl, Nat.le_of_ble_eq_true rfl⟩ rfl rfl (Nat.le_of_ble_eq_true rfl) d_lw_law_446 ⟨Nat.le_of_ble_eq_true rfl, Nat.le_of_ble_eq_true rfl⟩ ?_
  refine V_aload_n C d_lw_law_449 2 rfl ?_
  refine V_aload_n C d_lw_law_450 0 rfl ?_
  refine V_iload_n C d_lw_law_451 3 rfl ?_
  refine V_iconst C d_lw_law_452 ?_
  refine V_iadd C d_lw_law_453 ?_
  refine V_sld C hX hbl hbA (j + 1) (by omega) (by omega) (by omega) d_lw_law_454 ?_
  refine V_aload_n C d_lw_law_455 0 rfl ?_
  refine V_iload_n C d_lw_law_456 3 rfl ?_
  refine V_iconst C d_lw_law_457 ?_
  refine V_iadd C d_lw_law_458 ?_
  refine V_sld C hX hbl hbA (j + 2) (by omega) (by omega) (by omega) d_lw_law_459 ?_
  refine V_callVi C 32 (by decide) rfl rfl h2 wd_588 wd_589 wd_590 wd_7 wd_591 o_md_before ⟨rfl, rfl, Nat.le_of_ble_eq_true rfl, Nat.le_of_ble_eq_true rfl⟩ rfl rfl (Nat.le_of_ble_eq_true rfl) d_lw_law_460 ⟨Nat.le_of_ble_eq_true rfl, Nat.le_of_ble_eq_true rfl⟩ ?_
  refine V_same C 621 d_lw_law_463 (by decide) ?_
  refine V_iinc (lv' := [(3, _), (0, _), (1, _), (2, _)]) C d_lw_law_621 3 rfl (by decide) rfl ?_
  refine V_goto C 18 d_lw_law_624 (by decide) ?_
  refine V_sub (lv' := [(0, _), (1, _), (2, _), (3, _)]) [1, 2, 3, 0] rfl ?_
  exact ih σ2 hR2
theorem law_run {p : Program} {l : Launch} {e : Env} {s : State} {m : MethodId} {below : List Frame} {meth : Method} {c : Code} {w : zW} {b Ln : Nat} {xs : Nat → Int32} (C : zC p s m #[Value.ref b] meth c code 4 "RoundPlansLaw" w LL CC) (hX : va_X b Ln xs s s.heap) (hbl : b < s.heap.size) (hbA : ¬ zA w LL.1 s.heap.size b) (hLn : Ln ≤ 2560) {j : Nat} (hj : j + 5 ≤ Ln) {σ : Nat → Nat → Int} (hR : Rel σ) (ih : ∀ σ2, Rel σ2 → V p l e room_1 s m #[Value.ref b] below meth c 4 w LL CC 55 4090 (lw_Z below #[Value.ref b] s) 18 [(0, .ref b), (1, .ref (w.1 0)), (2, .ref (w.1 32)), (3, .int (zI ((j : Int) + 5)))] [] σ2) : V p l e room_1 s m #[Value.ref b] below meth c 4 w LL CC 55 4090 (lw_Z below #[Value.ref b] s) 468 [(0, .ref b), (1, .ref (w.1 0)), (2, .ref (w.1 32)), (3, .int (zI (j : Int)))] [] σ := by
  obtain ⟨z, σ1, σ2, h1, h2, hR2⟩ := k_run hR l w  
  refine V_aload_n C d_lw_law_468 1 rfl ?_
  refine V_callVi C 0 (by decide) rfl rfl h1 wd_292 wd_293 wd_294 wd_1 wd_295 o_rp_run ⟨rfl, rfl, Nat.le_of_ble_eq_true rfl, Nat.le_of_ble_eq_true rfl⟩ rfl rfl (Nat.le_of_ble_eq_true rfl) d_lw_law_469 ⟨Nat.le_of_ble_eq_true rfl, Nat.le_of_ble_eq_true rfl⟩ ?_
  refine V_aload_n C d_lw_law_472 2 rfl ?_
  refine V_callVi C 32 (by decide) rfl rfl h2 wd_596 wd_597 wd_598 wd_7 wd_599 o_md_run ⟨rfl, rfl, Nat.le_of_ble_eq_true rfl, Nat.le_of_ble_eq_true rfl⟩ rfl rfl (Nat.le_of_ble_eq_true rfl) d_lw_law_473 ⟨Nat.le_of_ble_eq_true rfl, Nat.le_of_ble_eq_true rfl⟩ ?_
  refine V_same C 621 d_lw_law_476 (by decide) ?_
  refine V_iinc (lv' := [(3, _), (0, _), (1, _), (2, _)]) C d_lw_law_621 3 rfl (by decide) rfl ?_
  refine V_goto C 18 d_lw_law_624 (by decide) ?_
  refine V_sub (lv' := [(0, _), (1, _), (2, _), (3, _)]) [1, 2, 3, 0] rfl ?_
  exact ih σ2 hR2
theorem law_cost {p : Program} {l : Launch} {e : Env} {s : State} {m : MethodId} {below : List Frame} {meth : Method} {c : Code} {w : zW} {b Ln : Nat} {xs : Nat → Int32} (C : zC p s m #[Value.ref b] meth c code 4 "RoundPlansLaw" w LL CC) (hX : va_X b Ln xs s s.heap) (hbl : b < s.heap.size) (hbA : ¬ zA w LL.1 s.heap.size b) (hLn : Ln ≤ 2560) {j : Nat} (hj : j + 5 ≤ Ln) {σ : Nat → Nat → Int} (hR : Rel σ) (ih : ∀ σ2, Rel σ2 → V p l e room_1 s m #[Value.ref b] below meth c 4 w LL CC 55 4090 (lw_Z below #[Value.ref b] s) 18 [(0, .ref b), (1, .ref (w.1 0)), (2, .ref (w.1 32)), (3, .int (zI ((j : Int) + 5)))] [] σ2) : V p l e room_1 s m #[Value.ref b] below meth c 4 w LL CC 55 4090 (lw_Z below #[Value.ref b] s) 481 [(0, .ref b), (1, .ref (w.1 0)), (2, .ref (w.1 32)), (3, .int (zI (j : Int)))] [] σ := by
  obtain ⟨z, σ1, σ2, h1, h2, hR2⟩ := k_cost hR l w  
  refine V_aload_n C d_lw_law_481 1 rfl ?_
  refine V_callVl C 0 (by decide) rfl rfl h1 wd_415 wd_416 wd_417 wd_1 wd_418 o_rp_cost ⟨rfl, rfl, Nat.le_of_ble_eq_true rfl, Nat.le_of_ble_eq_true rfl⟩ rfl rfl (Nat.le_of_ble_eq_true rfl) d_lw_law_482 ⟨Nat.le_of_ble_eq_true rfl, Nat.le_of_ble_eq_true rfl⟩ ?_
  refine V_aload_n C d_lw_law_485 2 rfl ?_
  refine V_callVl C 32 (by decide) rfl rfl h2 wd_644 wd_645 wd_646 wd_7 wd_647 o_md_cost ⟨rfl, rfl, Nat.le_of_ble_eq_true rfl, Nat.le_of_ble_eq_true rfl⟩ rfl rfl (Nat.le_of_ble_eq_true rfl) d_lw_law_486 ⟨Nat.le_of_ble_eq_true rfl, Nat.le_of_ble_eq_true rfl⟩ ?_
  refine V_lsame C d_lw_law_489 ?_
  refine V_ifeq C 621 d_lw_law_490 (by decide) rI_0 (fun _ => ?_) (fun hz => absurd rfl hz)
  refine V_iinc (lv' := [(3, _), (0, _), (1, _), (2, _)]) C d_lw_law_621 3 rfl (by decide) rfl ?_
  refine V_goto C 18 d_lw_law_624 (by decide) ?_
  refine V_sub (lv' := [(0, _), (1, _), (2, _), (3, _)]) [1, 2, 3, 0] rfl ?_
  exact ih σ2 hR2
theorem law_vehicleOf {p : Program} {l : Launch} {e : Env} {s : State} {m : MethodId} {below : List Frame} {meth : Method} {c : Code} {w : zW} {b Ln : Nat} {xs : Nat → Int32} (C : zC p s m #[Value.ref b] meth c code 4 "RoundPlansLaw" w LL CC) (hX : va_X b Ln xs s s.heap) (hbl : b < s.heap.size) (hbA : ¬ zA w LL.1 s.heap.size b) (hLn : Ln ≤ 2560) {j : Nat} (hj : j + 5 ≤ Ln) {σ : Nat → Nat → Int} (hR : Rel σ) (ih : ∀ σ2, Rel σ2 → V p l e room_1 s m #[Value.ref b] below meth c 4 w LL CC 55 4090 (lw_Z below #[Value.ref b] s) 18 [(0, .ref b), (1, .ref (w.1 0)), (2, .ref (w.1 32)), (3, .int (zI ((j : Int) + 5)))] [] σ2) : V p l e room_1 s m #[Value.ref b] below meth c 4 w LL CC 55 4090 (lw_Z below #[Value.ref b] s) 495 [(0, .ref b), (1, .ref (w.1 0)), (2, .ref (w.1 32)), (3, .int (zI (j : Int)))] [] σ := by
  obtain ⟨z, σ1, σ2, h1, h2, hR2⟩ := k_vehicleOf hR l w ((xs (j + 1)).toInt) (rI_x _)
  refine V_aload_n C d_lw_law_495 1 rfl ?_
  refine V_aload_n C d_lw_law_496 0 rfl ?_
  refine V_iload_n C d_lw_law_497 3 rfl ?_
  refine V_iconst C d_lw_law_498 ?_
  refine V_iadd C d_lw_law_499 ?_
  refine V_sld C hX hbl hbA (j + 1) (by omega) (by omega) (by omega) d_lw_law_500 ?_
  refine V_callVi C 0 (by decide) rfl rfl h1 wd_419 wd_420 wd_421 wd_1 wd_422 o_rp_vehicleOf ⟨rfl, rfl, Nat.le_of_ble_eq_true rfl, Nat.le_of_ble_eq_true rfl⟩ rfl rfl (Nat.le_of_ble_eq_true rfl) d_lw_law_501 ⟨Nat.le_of_ble_eq_true rfl, Nat.le_of_ble_eq_true rfl⟩ ?_
  refine V_aload_n C d_lw_law_504 2 rfl ?_
  refine V_aload_n C d_lw_law_505 0 rfl ?_
  refine V_iload_n C d_lw_law_506 3 rfl ?_
  refine V_iconst C d_lw_law_507 ?_
  refine V_iadd C d_lw_law_508 ?_
  refine V_sld C hX hbl hbA (j + 1) (by omega) (by omega) (by omega) d_lw_law_509 ?_
  refine V_callVi C 32 (by decide) rfl rfl h2 wd_648 wd_649 wd_650 wd_7 wd_651 o_md_vehicleOf ⟨rfl, rfl, Nat.le_of_ble_eq_true rfl, Nat.le_of_ble_eq_true rfl⟩ rfl rfl (Nat.le_of_ble_eq_true rfl) d_lw_law_510 ⟨Nat.le_of_ble_eq_true rfl, Nat.le_of_ble_eq_true rfl⟩ ?_
  refine V_same C 621 d_lw_law_513 (by decide) ?_
  refine V_iinc (lv' := [(3, _), (0, _), (1, _), (2, _)]) C d_lw_law_621 3 rfl (by decide) rfl ?_
  refine V_goto C 18 d_lw_law_624 (by decide) ?_
  refine V_sub (lv' := [(0, _), (1, _), (2, _), (3, _)]) [1, 2, 3, 0] rfl ?_
  exact ih σ2 hR2
theorem law_at {p : Program} {l : Launch} {e : Env} {s : State} {m : MethodId} {below : List Frame} {meth : Method} {c : Code} {w : zW} {b Ln : Nat} {xs : Nat → Int32} (C : zC p s m #[Value.ref b] meth c code 4 "RoundPlansLaw" w LL CC) (hX : va_X b Ln xs s s.heap) (hbl : b < s.heap.size) (hbA : ¬ zA w LL.1 s.heap.size b) (hLn : Ln ≤ 2560) {j : Nat} (hj : j + 5 ≤ Ln) {σ : Nat → Nat → Int} (hR : Rel σ) (ih : ∀ σ2, Rel σ2 → V p l e room_1 s m #[Value.ref b] below meth c 4 w LL CC 55 4090 (lw_Z below #[Value.ref b] s) 18 [(0, .ref b), (1, .ref (w.1 0)), (2, .ref (w.1 32)), (3, .int (zI ((j : Int) + 5)))] [] σ2) : V p l e room_1 s m #[Value.ref b] below meth c 4 w LL CC 55 4090 (lw_Z below #[Value.ref b] s) 518 [(0, .ref b), (1, .ref (w.1 0)), (2, .ref (w.1 32)), (3, .int (zI (j : Int)))] [] σ := by
  obtain ⟨z, σ1, σ2, h1, h2, hR2⟩ := k_at hR l w ((xs (j + 1)).toInt) ((xs (j + 2)).toInt) (rI_x _) (rI_x _)
  refine V_aload_n C d_lw_law_518 1 rfl ?_
  refine V_aload_n C d_lw_law_519 0 rfl ?_
  refine V_iload_n C d_lw_law_520 3 rfl ?_
  refine V_iconst C d_lw_law_521 ?_
  refine V_iadd C d_lw_law_522 ?_
  refine V_sld C hX hbl hbA (j + 1) (by omega) (by omega) (by omega) d_lw_law_523 ?_
  refine V_aload_n C d_lw_law_524 0 rfl ?_
  refine V_iload_n C d_lw_law_525 3 rfl ?_
  refine V_iconst C d_lw_law_526 ?_
  refine V_iadd C d_lw_law_527 ?_
  refine V_sld C hX hbl hbA (j + 2) (by omega) (by omega) (by omega) d_lw_law_528 ?_
  refine V_callVi C 0 (by decide) rfl rfl h1 wd_427 wd_428 wd_429 wd_1 wd_430 o_rp_at ⟨rfl, rfl, Nat.le_of_ble_eq_true rfl, Nat.le_of_ble_eq_true rfl⟩ rfl rfl (Nat.le_of_ble_eq_true rfl) d_lw_law_529 ⟨Nat.le_of_ble_eq_true rfl, Nat.le_of_ble_eq_true rfl⟩ ?_
  refine V_aload_n C d_lw_law_532 2 rfl ?_
  refine V_aload_n C d_lw_law_533 0 rfl ?_
  refine V_iload_n C d_lw_law_534 3 rfl ?_
  refine V_iconst C d_lw_law_535 ?_
  refine V_iadd C d_lw_law_536 ?_
  refine V_sld C hX hbl hbA (j + 1) (by omega) (by omega) (by omega) d_lw_law_537 ?_
  refine V_aload_n C d_lw_law_538 0 rfl ?_
  refine V_iload_n C d_lw_law_539 3 rfl ?_
  refine V_iconst C d_lw_law_540 ?_
  refine V_iadd C d_lw_law_541 ?_
  refine V_sld C hX hbl hbA (j + 2) (by omega) (by omega) (by omega) d_lw_law_542 ?_
  refine V_callVi C 32 (by decide) rfl rfl h2 wd_652 wd_653 wd_654 wd_7 wd_655 o_md_at ⟨rfl, rfl, Nat.le_of_ble_eq_true rfl, Nat.le_of_ble_eq_true rfl⟩ rfl rfl (Nat.le_of_ble_eq_true rfl) d_lw_law_543 ⟨Nat.le_of_ble_eq_true rfl, Nat.le_of_ble_eq_true rfl⟩ ?_
  refine V_same C 621 d_lw_law_546 (by decide) ?_
  refine V_iinc (lv' := [(3, _), (0, _), (1, _), (2, _)]) C d_lw_law_621 3 rfl (by decide) rfl ?_
  refine V_goto C 18 d_lw_law_624 (by decide) ?_
  refine V_sub (lv' := [(0, _), (1, _), (2, _), (3, _)]) [1, 2, 3, 0] rfl ?_
  exact ih σ2 hR2
theorem law_begun {p : Program} {l : Launch} {e : Env} {s : State} {m : MethodId} {below : List Frame} {meth : Method} {c : Code} {w : zW} {b Ln : Nat} {xs : Nat → Int32} (C : zC p s m #[Value.ref b] meth c code 4 "RoundPlansLaw" w LL CC) (hX : va_X b Ln xs s s.heap) (hbl : b < s.heap.size) (hbA : ¬ zA w LL.1 s.heap.size b) (hLn : Ln ≤ 2560) {j : Nat} (hj : j + 5 ≤ Ln) {σ : Nat → Nat → Int} (hR : Rel σ) (ih : ∀ σ2, Rel σ2 → V p l e room_1 s m #[Value.ref b] below meth c 4 w LL CC 55 4090 (lw_Z below #[Value.ref b] s) 18 [(0, .ref b), (1, .ref (w.1 0)), (2, .ref (w.1 32)), (3, .int (zI ((j : Int) + 5)))] [] σ2) : V p l e room_1 s m #[Value.ref b] below meth c 4 w LL CC 55 4090 (lw_Z below #[Value.ref b] s) 551 [(0, .ref b), (1, .ref (w.1 0)), (2, .ref (w.1 32)), (3, .int (zI (j : Int)))] [] σ := by
  obtain ⟨z, σ1, σ2, h1, h2, hR2⟩ := k_begun hR l w ((xs (j + 1)).toInt) (rI_x _)
  refine V_aload_n C d_lw_law_551 1 rfl ?_
  refine V_aload_n C d_lw_law_552 0 rfl ?_
  refine V_iload_n C d_lw_law_553 3 rfl ?_
  refine V_iconst C d_lw_law_554 ?_
  refine V_iadd C d_lw_law_555 ?_
  refine V_sld C hX hbl hbA (j + 1) (by omega) (by omega) (by omega) d_lw_law_556 ?_
  refine V_callVi C 0 (by decide) rfl rfl h1 wd_435 wd_436 wd_437 wd_1 wd_438 o_rp_begun ⟨rfl, rfl, Nat.le_of_ble_eq_true rfl, Nat.le_of_ble_eq_true rfl⟩ rfl rfl (Nat.le_of_ble_eq_true rfl) d_lw_law_557 ⟨Nat.le_of_ble_eq_true rfl, Nat.le_of_ble_eq_true rfl⟩ ?_
  refine V_aload_n C d_lw_law_560 2 rfl ?_
  refine V_aload_n C d_lw_law_561 0 rfl ?_
  refine V_iload_n C d_lw_law_562 3 rfl ?_
  refine V_iconst C d_lw_law_563 ?_
  refine V_iadd C d_lw_law_564 ?_
  refine V_sld C hX hbl hbA (j + 1) (by omega) (by omega) (by omega) d_lw_law_565 ?_
  refine V_callVi C 32 (by decide) rfl rfl h2 wd_656 wd_657 wd_658 wd_7 wd_659 o_md_begun ⟨rfl, rfl, Nat.le_of_ble_eq_true rfl, Nat.le_of_ble_eq_true rfl⟩ rfl rfl (Nat.le_of_ble_eq_true rfl) d_lw_law_566 ⟨Nat.le_of_ble_eq_true rfl, Nat.le_of_ble_eq_true rfl⟩ ?_
  refine V_same C 621 d_lw_law_569 (by decide) ?_
  refine V_iinc (lv' := [(3, _), (0, _), (1, _), (2, _)]) C d_lw_law_621 3 rfl (by decide) rfl ?_
  refine V_goto C 18 d_lw_law_624 (by decide) ?_
  refine V_sub (lv' := [(0, _), (1, _), (2, _), (3, _)]) [1, 2, 3, 0] rfl ?_
  exact ih σ2 hR2
theorem law_back {p : Program} {l : Launch} {e : Env} {s : State} {m : MethodId} {below : List Frame} {meth : Method} {c : Code} {w : zW} {b Ln : Nat} {xs : Nat → Int32} (C : zC p s m #[Value.ref b] meth c code 4 "RoundPlansLaw" w LL CC) (hX : va_X b Ln xs s s.heap) (hbl : b < s.heap.size) (hbA : ¬ zA w LL.1 s.heap.size b) (hLn : Ln ≤ 2560) {j : Nat} (hj : j + 5 ≤ Ln) {σ : Nat → Nat → Int} (hR : Rel σ) (ih : ∀ σ2, Rel σ2 → V p l e room_1 s m #[Value.ref b] below meth c 4 w LL CC 55 4090 (lw_Z below #[Value.ref b] s) 18 [(0, .ref b), (1, .ref (w.1 0)), (2, .ref (w.1 32)), (3, .int (zI ((j : Int) + 5)))] [] σ2) : V p l e room_1 s m #[Value.ref b] below meth c 4 w LL CC 55 4090 (lw_Z below #[Value.ref b] s) 574 [(0, .ref b), (1, .ref (w.1 0)), (2, .ref (w.1 32)), (3, .int (zI (j : Int)))] [] σ := by
  obtain ⟨z, σ1, σ2, h1, h2, hR2⟩ := k_back hR l w ((xs (j + 1)).toInt) (rI_x _)
  refine V_aload_n C d_lw_law_574 1 rfl ?_
  refine V_aload_n C d_lw_law_575 0 rfl ?_
  refine V_iload_n C d_lw_law_576 3 rfl ?_
  refine V_iconst C d_lw_law_577 ?_
  refine V_iadd C d_lw_law_578 ?_
  refine V_sld C hX hbl hbA (j + 1) (by omega) (by omega) (by omega) d_lw_law_579 ?_
  refine V_callVi C 0 (by decide) rfl rfl h1 wd_439 wd_440 wd_441 wd_1 wd_442 o_rp_back ⟨rfl, rfl, Nat.le_of_ble_eq_true rfl, Nat.le_of_ble_eq_true rfl⟩ rfl rfl (Nat.le_of_ble_eq_true rfl) d_lw_law_580 ⟨Nat.le_of_ble_eq_true rfl, Nat.le_of_ble_eq_true rfl⟩ ?_
  refine V_aload_n C d_lw_law_583 2 rfl ?_
  refine V_aload_n C d_lw_law_584 0 rfl ?_
  refine V_iload_n C d_lw_law_585 3 rfl ?_
  refine V_iconst C d_lw_law_586 ?_
  refine V_iadd C d_lw_law_587 ?_
  refine V_sld C hX hbl hbA (j + 1) (by omega) (by omega) (by omega) d_lw_law_588 ?_
  refine V_callVi C 32 (by decide) rfl rfl h2 wd_660 wd_661 wd_662 wd_7 wd_663 o_md_back ⟨rfl, rfl, Nat.le_of_ble_eq_true rfl, Nat.le_of_ble_eq_true rfl⟩ rfl rfl (Nat.le_of_ble_eq_true rfl) d_lw_law_589 ⟨Nat.le_of_ble_eq_true rfl, Nat.le_of_ble_eq_true rfl⟩ ?_
  refine V_same C 621 d_lw_law_592 (by decide) ?_
  refine V_iinc (lv' := [(3, _), (0, _), (1, _), (2, _)]) C d_lw_law_621 3 rfl (by decide) rfl ?_
  refine V_goto C 18 d_lw_law_624 (by decide) ?_
  refine V_sub (lv' := [(0, _), (1, _), (2, _), (3, _)]) [1, 2, 3, 0] rfl ?_
  exact ih σ2 hR2
theorem law_saved {p : Program} {l : Launch} {e : Env} {s : State} {m : MethodId} {below : List Frame} {meth : Method} {c : Code} {w : zW} {b Ln : Nat} {xs : Nat → Int32} (C : zC p s m #[Value.ref b] meth c code 4 "RoundPlansLaw" w LL CC) (hX : va_X b Ln xs s s.heap) (hbl : b < s.heap.size) (hbA : ¬ zA w LL.1 s.heap.size b) (hLn : Ln ≤ 2560) {j : Nat} (hj : j + 5 ≤ Ln) {σ : Nat → Nat → Int} (hR : Rel σ) (ih : ∀ σ2, Rel σ2 → V p l e room_1 s m #[Value.ref b] below meth c 4 w LL CC 55 4090 (lw_Z below #[Value.ref b] s) 18 [(0, .ref b), (1, .ref (w.1 0)), (2, .ref (w.1 32)), (3, .int (zI ((j : Int) + 5)))] [] σ2) : V p l e room_1 s m #[Value.ref b] below meth c 4 w LL CC 55 4090 (lw_Z below #[Value.ref b] s) 597 [(0, .ref b), (1, .ref (w.1 0)), (2, .ref (w.1 32)), (3, .int (zI (j : Int)))] [] σ := by
  obtain ⟨z, σ1, σ2, h1, h2, hR2⟩ := k_saved hR l w ((xs (j + 1)).toInt) (rI_x _)
  refine V_aload_n C d_lw_law_597 1 rfl ?_
  refine V_aload_n C d_lw_law_598 0 rfl ?_
  refine V_iload_n C d_lw_law_599 3 rfl ?_
  refine V_iconst C d_lw_law_600 ?_
  refine V_iadd C d_lw_law_601 ?_
  refine V_sld C hX hbl hbA (j + 1) (by omega) (by omega) (by omega) d_lw_law_602 ?_
  refine V_callVl C 0 (by decide) rfl rfl h1 wd_443 wd_444 wd_445 wd_1 wd_446 o_rp_saved ⟨rfl, rfl, Nat.le_of_ble_eq_true rfl, Nat.le_of_ble_eq_true rfl⟩ rfl rfl (Nat.le_of_ble_eq_true rfl) d_lw_law_603 ⟨Nat.le_of_ble_eq_true rfl, Nat.le_of_ble_eq_true rfl⟩ ?_
  refine V_aload_n C d_lw_law_606 2 rfl ?_
  refine V_aload_n C d_lw_law_607 0 rfl ?_
  refine V_iload_n C d_lw_law_608 3 rfl ?_
  refine V_iconst C d_lw_law_609 ?_
  refine V_iadd C d_lw_law_610 ?_
  refine V_sld C hX hbl hbA (j + 1) (by omega) (by omega) (by omega) d_lw_law_611 ?_
  refine V_callVl C 32 (by decide) rfl rfl h2 wd_664 wd_665 wd_666 wd_7 wd_667 o_md_saved ⟨rfl, rfl, Nat.le_of_ble_eq_true rfl, Nat.le_of_ble_eq_true rfl⟩ rfl rfl (Nat.le_of_ble_eq_true rfl) d_lw_law_612 ⟨Nat.le_of_ble_eq_true rfl, Nat.le_of_ble_eq_true rfl⟩ ?_
  refine V_lsame C d_lw_law_615 ?_
  refine V_ifeq C 621 d_lw_law_616 (by decide) rI_0 (fun _ => ?_) (fun hz => absurd rfl hz)
  refine V_iinc (lv' := [(3, _), (0, _), (1, _), (2, _)]) C d_lw_law_621 3 rfl (by decide) rfl ?_
  refine V_goto C 18 d_lw_law_624 (by decide) ?_
  refine V_sub (lv' := [(0, _), (1, _), (2, _), (3, _)]) [1, 2, 3, 0] rfl ?_
  exact ih σ2 hR2
theorem law_next {p : Program} {l : Launch} {e : Env} {s : State} {m : MethodId} {below : List Frame} {meth : Method} {c : Code} {w : zW} {b Ln : Nat} {xs : Nat → Int32} (C : zC p s m #[Value.ref b] meth c code 4 "RoundPlansLaw" w LL CC) (hX : va_X b Ln xs s s.heap) (hbl : b < s.heap.size) (hbA : ¬ zA w LL.1 s.heap.size b) (hLn : Ln ≤ 2560) {j : Nat} (hj : j + 5 ≤ Ln) {σ : Nat → Nat → Int} (hR : Rel σ) (ih : ∀ σ2, Rel σ2 → V p l e room_1 s m #[Value.ref b] below meth c 4 w LL CC 55 4090 (lw_Z below #[Value.ref b] s) 18 [(0, .ref b), (1, .ref (w.1 0)), (2, .ref (w.1 32)), (3, .int (zI ((j : Int) + 5)))] [] σ2) : V p l e room_1 s m #[Value.ref b] below meth c 4 w LL CC 55 4090 (lw_Z below #[Value.ref b] s) 26 [(0, .ref b), (1, .ref (w.1 0)), (2, .ref (w.1 32)), (3, .int (zI (j : Int)))] [] σ := by
  refine V_aload_n C d_lw_law_26 0 rfl ?_
  refine V_iload_n C d_lw_law_27 3 rfl ?_
  refine V_sld C hX hbl hbA j rfl (by omega) (by omega) d_lw_law_28 ?_
  refine V_bipush C d_lw_law_29 (by decide) ?_
  refine V_iandx C d_lw_law_31 ?_
  generalize hv : (zI (xs j).toInt &&& zI 15) = v
  by_cases ho : v.toInt < 0 ∨ 14 < v.toInt
  · refine V_tabOut C 621 d_lw_law_32 ho (by decide) ?_
    refine V_iinc (lv' := [(3, _), (0, _), (1, _), (2, _)]) C d_lw_law_621 3 rfl (by decide) rfl ?_
    refine V_goto C 18 d_lw_law_624 (by decide) ?_
    refine V_sub (lv' := [(0, _), (1, _), (2, _), (3, _)]) [1, 2, 3, 0] rfl ?_
    exact ih σ hR
  · have hc : v.toInt = 0 ∨ v.toInt = 1 ∨ v.toInt = 2 ∨ v.toInt = 3 ∨ v.toInt = 4 ∨ v.toInt = 5 ∨ v.toInt = 6 ∨ v.toInt = 7 ∨ v.toInt = 8 ∨ v.toInt = 9 ∨ v.toInt = 10 ∨ v.toInt = 11 ∨ v.toInt = 12 ∨ v.toInt = 13 ∨ v.toInt = 14 := by omega
    rcases hc with h | h | h | h | h | h | h | h | h | h | h | h | h | h | h
    · exact V_tabIn C 108 d_lw_law_32 (by omega) (by omega) (by rw [h]; rfl) (by decide) (law_stop C hX hbl hbA hLn hj hR ih)
    · exact V_tabIn C 131 d_lw_law_32 (by omega) (by omega) (by rw [h]; rfl) (by decide) (law_hours C hX hbl hbA hLn hj hR ih)
    · exact V_tabIn C 184 d_lw_law_32 (by omega) (by omega) (by rw [h]; rfl) (by decide) (law_penalty C hX hbl hbA hLn hj hR ih)
    · exact V_tabIn C 247 d_lw_law_32 (by omega) (by omega) (by rw [h]; rfl) (by decide) (law_vehicle C hX hbl hbA hLn hj hR ih)
    · exact V_tabIn C 300 d_lw_law_32 (by omega) (by omega) (by rw [h]; rfl) (by decide) (law_way C hX hbl hbA hLn hj hR ih)
    · exact V_tabIn C 343 d_lw_law_32 (by omega) (by omega) (by rw [h]; rfl) (by decide) (law_fixed C hX hbl hbA hLn hj hR ih)
    · exact V_tabIn C 376 d_lw_law_32 (by omega) (by omega) (by rw [h]; rfl) (by decide) (law_apart C hX hbl hbA hLn hj hR ih)
    · exact V_tabIn C 435 d_lw_law_32 (by omega) (by omega) (by rw [h]; rfl) (by decide) (law_before C hX hbl hbA hLn hj hR ih)
    · exact V_tabIn C 468 d_lw_law_32 (by omega) (by omega) (by rw [h]; rfl) (by decide) (law_run C hX hbl hbA hLn hj hR ih)
    · exact V_tabIn C 481 d_lw_law_32 (by omega) (by omega) (by rw [h]; rfl) (by decide) (law_cost C hX hbl hbA hLn hj hR ih)
    · exact V_tabIn C 495 d_lw_law_32 (by omega) (by omega) (by rw [h]; rfl) (by decide) (law_vehicleOf C hX hbl hbA hLn hj hR ih)
    · exact V_tabIn C 518 d_lw_law_32 (by omega) (by omega) (by rw [h]; rfl) (by decide) (law_at C hX hbl hbA hLn hj hR ih)
    · exact V_tabIn C 551 d_lw_law_32 (by omega) (by omega) (by rw [h]; rfl) (by decide) (law_begun C hX hbl hbA hLn hj hR ih)
    · exact V_tabIn C 574 d_lw_law_32 (by omega) (by omega) (by rw [h]; rfl) (by decide) (law_back C hX hbl hbA hLn hj hR ih)
    · exact V_tabIn C 597 d_lw_law_32 (by omega) (by omega) (by rw [h]; rfl) (by decide) (law_saved C hX hbl hbA hLn hj hR ih)
theorem law_end {p : Program} {l : Launch} {e : Env} {s : State} {m : MethodId} {below : List Frame} {meth : Method} {c : Code} {w : zW} {b Ln : Nat} {xs : Nat → Int32} (C : zC p s m #[Value.ref b] meth c code 4 "RoundPlansLaw" w LL CC) (hX : va_X b Ln xs s s.heap) (hbl : b < s.heap.size) (hbA : ¬ zA w LL.1 s.heap.size b) (hLn : Ln ≤ 2560) (hr : meth.sig.returnType = ret) (hw : ∀ k, k < 55 → s.heap.size ≤ w.1 k) {lv : List (Nat × Value)} {σ : Nat → Nat → Int} : V p l e room_1 s m #[Value.ref b] below meth c 4 w LL CC 55 4090 (lw_Z below #[Value.ref b] s) 627 lv [] σ := by
  refine V_iconst C d_lw_law_627 ?_
  intro ls H locs hl hP hS
  refine va_forget (fun q hq => ?_) (lw_ret C.1 C.2.1 hr C.2.2.2.2.2.2.2.1 d_lw_law_628)
  rcases hS.2.2 q hq with ⟨k, hk, e⟩ | e
  · rw [e]; exact hw k hk
  · exact e
theorem law_loop {p : Program} {l : Launch} {e : Env} {s : State} {m : MethodId} {below : List Frame} {meth : Method} {c : Code} {w : zW} {b Ln : Nat} {xs : Nat → Int32} (C : zC p s m #[Value.ref b] meth c code 4 "RoundPlansLaw" w LL CC) (hX : va_X b Ln xs s s.heap) (hbl : b < s.heap.size) (hbA : ¬ zA w LL.1 s.heap.size b) (hLn : Ln ≤ 2560) (hr : meth.sig.returnType = ret) (hw : ∀ k, k < 55 → s.heap.size ≤ w.1 k) : ∀ (f j : Nat) (σ : Nat → Nat → Int), Ln + 5 ≤ f + j → j ≤ Ln + 5 → Rel σ → V p l e room_1 s m #[Value.ref b] below meth c 4 w LL CC 55 4090 (lw_Z below #[Value.ref b] s) 18 [(0, .ref b), (1, .ref (w.1 0)), (2, .ref (w.1 32)), (3, .int (zI (j : Int)))] [] σ := by
  have main : ∀ (j : Nat) (σ : Nat → Nat → Int), j ≤ Ln + 5 → (j + 5 ≤ Ln → V p l e room_1 s m #[Value.ref b] below meth c 4 w LL CC 55 4090 (lw_Z below #[Value.ref b] s) 26 [(0, .ref b), (1, .ref (w.1 0)), (2, .ref (w.1 32)), (3, .int (zI (j : Int)))] [] σ) → V p l e room_1 s m #[Value.ref b] below meth c 4 w LL CC 55 4090 (lw_Z below #[Value.ref b] s) 18 [(0, .ref b), (1, .ref (w.1 0)), (2, .ref (w.1 32)), (3, .int (zI (j : Int)))] [] σ := by
    intro j σ hj k
    refine V_iload_n C d_lw_law_18 3 rfl ?_
    refine V_aload_n C d_lw_law_19 0 rfl ?_
    refine V_slen C hX hbl hbA d_lw_law_20 ?_
    refine V_iconst C d_lw_law_21 ?_
    refine V_isub C d_lw_law_22 ?_
    refine V_cmpgt C 627 d_lw_law_23 (by decide) ⟨by omega, by omega⟩ ⟨by omega, by omega⟩ (fun h => ?_) (fun h => ?_)
    · exact law_end C hX hbl hbA hLn hr hw
    · exact k (by omega)
  intro f
  induction f with
  | zero => intro j σ h1 h2 hR; exact main j σ h2 (fun h => by omega)
  | succ f ihf =>
    intro j σ h1 h2 hR
    refine main j σ h2 (fun h => law_next C hX hbl hbA hLn h hR (fun σ2 hR2 => ?_))
    have := ihf (j + 5) σ2 (by omega) (by omega) hR2
    rw [show ((j + 5 : Nat) : Int) = (j : Int) + 5 from Int.natCast_add j 5] at this
    exact this
