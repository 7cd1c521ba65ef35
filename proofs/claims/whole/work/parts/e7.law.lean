section LK
variable {p : Program} {l : Launch} {e : Env} {s : State} {m : MethodId} {args : Array Value} {below : List Frame} {meth : Method} {c : Code} {Q : State → Prop}
variable {X : wX} {σ : sg} {b N : Nat} {xs : Nat → Int32} {i : Nat}
set_option maxRecDepth 100000 in
set_option maxHeartbeats 4000000 in
theorem lk_0 (F : fx_ p s m args c b_L_law 4 R_L X) (hs : sx2_ X b N xs s) (hi : i + 5 ≤ N) (h : Rl_ σ) (k : ∀ τ, Rl_ τ → vv_ p l e room_1 s m args below meth c Q X 4 [(3, .int (nI i)), (2, .ref (adr X 28)), (1, .ref (adr X 0)), (0, .ref b)] τ 693 []) : vv_ p l e room_1 s m args below meth c Q X 4 [(3, .int (nI i)), (2, .ref (adr X 28)), (1, .ref (adr X 0)), (0, .ref b)] σ 116 [] := by
  obtain ⟨⟨⟨e5, e6, e7, e8, e9, e10, e11, e12, e13, e14, e15, e16⟩, ⟨f1, f2, f3, f4, f5, f6, f7, f8⟩, g⟩, ⟨t5, t6, t7, t8, t9, t10, t11, t12, t13, t14, t15, t16⟩, b1, b2, b3, b4, b5, b6, b7⟩ := id h
  refine qv_aload_n F d_L_law_116 2 rfl ?_
  refine qv_aload_n F d_L_law_117 3 rfl ?_
  refine qv_iload_n F d_L_law_118 0 rfl ?_
  refine qv_iconst F (nI 1) d_L_law_119 ic_1 ?_
  refine qv_iadd F d_L_law_120 ?_
  refine qv_sld F hs (by omega) d_L_law_121 ?_
  refine qv_aload_n F d_L_law_122 3 rfl ?_
  refine qv_iload_n F d_L_law_123 0 rfl ?_
  refine qv_iconst F (nI 2) d_L_law_124 ic_2 ?_
  refine qv_iadd F d_L_law_125 ?_
  refine qv_sld F hs (by omega) d_L_law_126 ?_
  refine i_L_13i F (c_P_kind l X σ (xs (i + 1)) (xs (i + 2))) (by decide) (Nat.le_of_ble_eq_true rfl) d_L_law_127 ?_
  refine qv_aload_n F d_L_law_130 1 rfl ?_
  refine qv_aload_n F d_L_law_131 3 rfl ?_
  refine qv_iload_n F d_L_law_132 0 rfl ?_
  refine qv_iconst F (nI 1) d_L_law_133 ic_1 ?_
  refine qv_iadd F d_L_law_134 ?_
  refine qv_sld F hs (by omega) d_L_law_135 ?_
  refine qv_aload_n F d_L_law_136 3 rfl ?_
  refine qv_iload_n F d_L_law_137 0 rfl ?_
  refine qv_iconst F (nI 2) d_L_law_138 ic_2 ?_
  refine qv_iadd F d_L_law_139 ?_
  refine qv_sld F hs (by omega) d_L_law_140 ?_
  refine i_L_17i F (c_M_kind l X _ (xs (i + 1)) (xs (i + 2))) (by decide) (Nat.le_of_ble_eq_true rfl) d_L_law_141 ?_
  refine qv_icmpeqE F d_L_law_144 (tgt := 693) rfl rfl ?_
  exact k _ (gl_kind h _ _)
set_option maxRecDepth 100000 in
set_option maxHeartbeats 4000000 in
theorem lk_1 (F : fx_ p s m args c b_L_law 4 R_L X) (hs : sx2_ X b N xs s) (hi : i + 5 ≤ N) (h : Rl_ σ) (k : ∀ τ, Rl_ τ → vv_ p l e room_1 s m args below meth c Q X 4 [(3, .int (nI i)), (2, .ref (adr X 28)), (1, .ref (adr X 0)), (0, .ref b)] τ 693 []) : vv_ p l e room_1 s m args below meth c Q X 4 [(3, .int (nI i)), (2, .ref (adr X 28)), (1, .ref (adr X 0)), (0, .ref b)] σ 149 [] := by
  obtain ⟨⟨⟨e5, e6, e7, e8, e9, e10, e11, e12, e13, e14, e15, e16⟩, ⟨f1, f2, f3, f4, f5, f6, f7, f8⟩, g⟩, ⟨t5, t6, t7, t8, t9, t10, t11, t12, t13, t14, t15, t16⟩, b1, b2, b3, b4, b5, b6, b7⟩ := id h
  refine qv_aload_n F d_L_law_149 2 rfl ?_
  refine qv_aload_n F d_L_law_150 3 rfl ?_
  refine qv_iload_n F d_L_law_151 0 rfl ?_
  refine qv_iconst F (nI 1) d_L_law_152 ic_1 ?_
  refine qv_iadd F d_L_law_153 ?_
  refine qv_sld F hs (by omega) d_L_law_154 ?_
  refine qv_aload_n F d_L_law_155 3 rfl ?_
  refine qv_iload_n F d_L_law_156 0 rfl ?_
  refine qv_iconst F (nI 2) d_L_law_157 ic_2 ?_
  refine qv_iadd F d_L_law_158 ?_
  refine qv_sld F hs (by omega) d_L_law_159 ?_
  refine i_L_18i F (c_P_accept l X σ (xs (i + 1)) (xs (i + 2))) (by decide) (Nat.le_of_ble_eq_true rfl) d_L_law_160 ?_
  refine qv_aload_n F d_L_law_163 1 rfl ?_
  refine qv_aload_n F d_L_law_164 3 rfl ?_
  refine qv_iload_n F d_L_law_165 0 rfl ?_
  refine qv_iconst F (nI 1) d_L_law_166 ic_1 ?_
  refine qv_iadd F d_L_law_167 ?_
  refine qv_sld F hs (by omega) d_L_law_168 ?_
  refine qv_aload_n F d_L_law_169 3 rfl ?_
  refine qv_iload_n F d_L_law_170 0 rfl ?_
  refine qv_iconst F (nI 2) d_L_law_171 ic_2 ?_
  refine qv_iadd F d_L_law_172 ?_
  refine qv_sld F hs (by omega) d_L_law_173 ?_
  refine i_L_21i F (c_M_accept l X _ (xs (i + 1)) (xs (i + 2))) (by decide) (Nat.le_of_ble_eq_true rfl) d_L_law_174 ?_
  refine qv_icmpeqE F d_L_law_177 (tgt := 693) rfl rfl ?_
  exact k _ (gl_accept h _ _)
set_option maxRecDepth 100000 in
set_option maxHeartbeats 4000000 in
theorem lk_2 (F : fx_ p s m args c b_L_law 4 R_L X) (hs : sx2_ X b N xs s) (hi : i + 5 ≤ N) (h : Rl_ σ) (k : ∀ τ, Rl_ τ → vv_ p l e room_1 s m args below meth c Q X 4 [(3, .int (nI i)), (2, .ref (adr X 28)), (1, .ref (adr X 0)), (0, .ref b)] τ 693 []) : vv_ p l e room_1 s m args below meth c Q X 4 [(3, .int (nI i)), (2, .ref (adr X 28)), (1, .ref (adr X 0)), (0, .ref b)] σ 182 [] := by
  obtain ⟨⟨⟨e5, e6, e7, e8, e9, e10, e11, e12, e13, e14, e15, e16⟩, ⟨f1, f2, f3, f4, f5, f6, f7, f8⟩, g⟩, ⟨t5, t6, t7, t8, t9, t10, t11, t12, t13, t14, t15, t16⟩, b1, b2, b3, b4, b5, b6, b7⟩ := id h
  refine qv_aload_n F d_L_law_182 2 rfl ?_
  refine qv_aload_n F d_L_law_183 3 rfl ?_
  refine qv_iload_n F d_L_law_184 0 rfl ?_
  refine qv_iconst F (nI 1) d_L_law_185 ic_1 ?_
  refine qv_iadd F d_L_law_186 ?_
  refine qv_sld F hs (by omega) d_L_law_187 ?_
  refine qv_aload_n F d_L_law_188 3 rfl ?_
  refine qv_iload_n F d_L_law_189 0 rfl ?_
  refine qv_iconst F (nI 2) d_L_law_190 ic_2 ?_
  refine qv_iadd F d_L_law_191 ?_
  refine qv_sld F hs (by omega) d_L_law_192 ?_
  refine i_L_22i F (c_P_make l X σ (xs (i + 1)) (xs (i + 2)) b1) (by decide) (Nat.le_of_ble_eq_true rfl) d_L_law_193 ?_
  refine qv_aload_n F d_L_law_196 1 rfl ?_
  refine qv_aload_n F d_L_law_197 3 rfl ?_
  refine qv_iload_n F d_L_law_198 0 rfl ?_
  refine qv_iconst F (nI 1) d_L_law_199 ic_1 ?_
  refine qv_iadd F d_L_law_200 ?_
  refine qv_sld F hs (by omega) d_L_law_201 ?_
  refine qv_aload_n F d_L_law_202 3 rfl ?_
  refine qv_iload_n F d_L_law_203 0 rfl ?_
  refine qv_iconst F (nI 2) d_L_law_204 ic_2 ?_
  refine qv_iadd F d_L_law_205 ?_
  refine qv_sld F hs (by omega) d_L_law_206 ?_
  refine i_L_26i F (c_M_make l X _ (xs (i + 1)) (xs (i + 2)) (by rw [sn2_28]; omega)) (by decide) (Nat.le_of_ble_eq_true rfl) d_L_law_207 ?_
  refine qv_icmpeqE F d_L_law_210 (tgt := 693) rfl (by rw [sn2_28, f1]) ?_
  exact k _ (gl_sn h (fun z => ⟨by decide, wi_tn (by decide) (Bool.and_eq_true_iff.mp z).1, Nat.lt_of_lt_of_le (wi_tn (by decide) (Bool.and_eq_true_iff.mp z).2) (by decide), by decide⟩))
set_option maxRecDepth 100000 in
set_option maxHeartbeats 4000000 in
theorem lk_3 (F : fx_ p s m args c b_L_law 4 R_L X) (hs : sx2_ X b N xs s) (hi : i + 5 ≤ N) (h : Rl_ σ) (k : ∀ τ, Rl_ τ → vv_ p l e room_1 s m args below meth c Q X 4 [(3, .int (nI i)), (2, .ref (adr X 28)), (1, .ref (adr X 0)), (0, .ref b)] τ 693 []) : vv_ p l e room_1 s m args below meth c Q X 4 [(3, .int (nI i)), (2, .ref (adr X 28)), (1, .ref (adr X 0)), (0, .ref b)] σ 215 [] := by
  obtain ⟨⟨⟨e5, e6, e7, e8, e9, e10, e11, e12, e13, e14, e15, e16⟩, ⟨f1, f2, f3, f4, f5, f6, f7, f8⟩, g⟩, ⟨t5, t6, t7, t8, t9, t10, t11, t12, t13, t14, t15, t16⟩, b1, b2, b3, b4, b5, b6, b7⟩ := id h
  refine qv_aload_n F d_L_law_215 2 rfl ?_
  refine qv_aload_n F d_L_law_216 3 rfl ?_
  refine qv_iload_n F d_L_law_217 0 rfl ?_
  refine qv_iconst F (nI 1) d_L_law_218 ic_1 ?_
  refine qv_iadd F d_L_law_219 ?_
  refine qv_sld F hs (by omega) d_L_law_220 ?_
  refine qv_aload_n F d_L_law_221 3 rfl ?_
  refine qv_iload_n F d_L_law_222 0 rfl ?_
  refine qv_iconst F (nI 2) d_L_law_223 ic_2 ?_
  refine qv_iadd F d_L_law_224 ?_
  refine qv_sld F hs (by omega) d_L_law_225 ?_
  refine i_L_27i F (c_P_copy l X σ (xs (i + 1)) (xs (i + 2)) b1) (by decide) (Nat.le_of_ble_eq_true rfl) d_L_law_226 ?_
  refine qv_aload_n F d_L_law_229 1 rfl ?_
  refine qv_aload_n F d_L_law_230 3 rfl ?_
  refine qv_iload_n F d_L_law_231 0 rfl ?_
  refine qv_iconst F (nI 1) d_L_law_232 ic_1 ?_
  refine qv_iadd F d_L_law_233 ?_
  refine qv_sld F hs (by omega) d_L_law_234 ?_
  refine qv_aload_n F d_L_law_235 3 rfl ?_
  refine qv_iload_n F d_L_law_236 0 rfl ?_
  refine qv_iconst F (nI 2) d_L_law_237 ic_2 ?_
  refine qv_iadd F d_L_law_238 ?_
  refine qv_sld F hs (by omega) d_L_law_239 ?_
  refine i_L_30i F (c_M_copy l X _ (xs (i + 1)) (xs (i + 2)) (by rw [sn2_28]; omega)) (by decide) (Nat.le_of_ble_eq_true rfl) d_L_law_240 ?_
  refine qv_icmpeqE F d_L_law_243 (tgt := 693) rfl (by rw [sn2_28, f1]) ?_
  exact k _ (gl_sn h (fun z => ⟨by decide, om_1 z, om_2 z, by decide⟩))
set_option maxRecDepth 100000 in
set_option maxHeartbeats 4000000 in
theorem lk_4 (F : fx_ p s m args c b_L_law 4 R_L X) (hs : sx2_ X b N xs s) (hi : i + 5 ≤ N) (h : Rl_ σ) (k : ∀ τ, Rl_ τ → vv_ p l e room_1 s m args below meth c Q X 4 [(3, .int (nI i)), (2, .ref (adr X 28)), (1, .ref (adr X 0)), (0, .ref b)] τ 693 []) : vv_ p l e room_1 s m args below meth c Q X 4 [(3, .int (nI i)), (2, .ref (adr X 28)), (1, .ref (adr X 0)), (0, .ref b)] σ 248 [] := by
  obtain ⟨⟨⟨e5, e6, e7, e8, e9, e10, e11, e12, e13, e14, e15, e16⟩, ⟨f1, f2, f3, f4, f5, f6, f7, f8⟩, g⟩, ⟨t5, t6, t7, t8, t9, t10, t11, t12, t13, t14, t15, t16⟩, b1, b2, b3, b4, b5, b6, b7⟩ := id h
  refine qv_aload_n F d_L_law_248 2 rfl ?_
  refine qv_aload_n F d_L_law_249 3 rfl ?_
  refine qv_iload_n F d_L_law_250 0 rfl ?_
  refine qv_iconst F (nI 1) d_L_law_251 ic_1 ?_
  refine qv_iadd F d_L_law_252 ?_
  refine qv_sld F hs (by omega) d_L_law_253 ?_
  refine qv_aload_n F d_L_law_254 3 rfl ?_
  refine qv_iload_n F d_L_law_255 0 rfl ?_
  refine qv_iconst F (nI 2) d_L_law_256 ic_2 ?_
  refine qv_iadd F d_L_law_257 ?_
  refine qv_sld F hs (by omega) d_L_law_258 ?_
  refine qv_aload_n F d_L_law_259 3 rfl ?_
  refine qv_iload_n F d_L_law_260 0 rfl ?_
  refine qv_iconst F (nI 3) d_L_law_261 ic_3 ?_
  refine qv_iadd F d_L_law_262 ?_
  refine qv_sld F hs (by omega) d_L_law_263 ?_
  refine i_L_31i F (c_P_store l X σ (xs (i + 1)) (xs (i + 2)) (xs (i + 3)) b1) (by decide) (Nat.le_of_ble_eq_true rfl) d_L_law_264 ?_
  refine qv_aload_n F d_L_law_267 1 rfl ?_
  refine qv_aload_n F d_L_law_268 3 rfl ?_
  refine qv_iload_n F d_L_law_269 0 rfl ?_
  refine qv_iconst F (nI 1) d_L_law_270 ic_1 ?_
  refine qv_iadd F d_L_law_271 ?_
  refine qv_sld F hs (by omega) d_L_law_272 ?_
  refine qv_aload_n F d_L_law_273 3 rfl ?_
  refine qv_iload_n F d_L_law_274 0 rfl ?_
  refine qv_iconst F (nI 2) d_L_law_275 ic_2 ?_
  refine qv_iadd F d_L_law_276 ?_
  refine qv_sld F hs (by omega) d_L_law_277 ?_
  refine qv_aload_n F d_L_law_278 3 rfl ?_
  refine qv_iload_n F d_L_law_279 0 rfl ?_
  refine qv_iconst F (nI 3) d_L_law_280 ic_3 ?_
  refine qv_iadd F d_L_law_281 ?_
  refine qv_sld F hs (by omega) d_L_law_282 ?_
  refine i_L_35i F (c_M_store l X _ (xs (i + 1)) (xs (i + 2)) (xs (i + 3)) (by rw [sn2_28]; omega)) (by decide) (Nat.le_of_ble_eq_true rfl) d_L_law_283 ?_
  refine qv_icmpeqE F d_L_law_286 (tgt := 693) rfl (by rw [sn2_28, f1]) ?_
  exact k _ (gl_sn h (fun z => ⟨by decide, om_1 (Bool.and_eq_true_iff.mp z).1, om_2 (Bool.and_eq_true_iff.mp z).1, wi_tn (by decide) (Bool.and_eq_true_iff.mp z).2⟩))
set_option maxRecDepth 100000 in
set_option maxHeartbeats 4000000 in
theorem lk_5 (F : fx_ p s m args c b_L_law 4 R_L X) (hs : sx2_ X b N xs s) (hi : i + 5 ≤ N) (h : Rl_ σ) (k : ∀ τ, Rl_ τ → vv_ p l e room_1 s m args below meth c Q X 4 [(3, .int (nI i)), (2, .ref (adr X 28)), (1, .ref (adr X 0)), (0, .ref b)] τ 693 []) : vv_ p l e room_1 s m args below meth c Q X 4 [(3, .int (nI i)), (2, .ref (adr X 28)), (1, .ref (adr X 0)), (0, .ref b)] σ 291 [] := by
  obtain ⟨⟨⟨e5, e6, e7, e8, e9, e10, e11, e12, e13, e14, e15, e16⟩, ⟨f1, f2, f3, f4, f5, f6, f7, f8⟩, g⟩, ⟨t5, t6, t7, t8, t9, t10, t11, t12, t13, t14, t15, t16⟩, b1, b2, b3, b4, b5, b6, b7⟩ := id h
  refine qv_aload_n F d_L_law_291 2 rfl ?_
  refine qv_aload_n F d_L_law_292 3 rfl ?_
  refine qv_iload_n F d_L_law_293 0 rfl ?_
  refine qv_iconst F (nI 1) d_L_law_294 ic_1 ?_
  refine qv_iadd F d_L_law_295 ?_
  refine qv_sld F hs (by omega) d_L_law_296 ?_
  refine qv_aload_n F d_L_law_297 3 rfl ?_
  refine qv_iload_n F d_L_law_298 0 rfl ?_
  refine qv_iconst F (nI 2) d_L_law_299 ic_2 ?_
  refine qv_iadd F d_L_law_300 ?_
  refine qv_sld F hs (by omega) d_L_law_301 ?_
  refine qv_aload_n F d_L_law_302 3 rfl ?_
  refine qv_iload_n F d_L_law_303 0 rfl ?_
  refine qv_iconst F (nI 3) d_L_law_304 ic_3 ?_
  refine qv_iadd F d_L_law_305 ?_
  refine qv_sld F hs (by omega) d_L_law_306 ?_
  refine i_L_36i F (c_P_load l X σ (xs (i + 1)) (xs (i + 2)) (xs (i + 3)) b1) (by decide) (Nat.le_of_ble_eq_true rfl) d_L_law_307 ?_
  refine qv_aload_n F d_L_law_310 1 rfl ?_
  refine qv_aload_n F d_L_law_311 3 rfl ?_
  refine qv_iload_n F d_L_law_312 0 rfl ?_
  refine qv_iconst F (nI 1) d_L_law_313 ic_1 ?_
  refine qv_iadd F d_L_law_314 ?_
  refine qv_sld F hs (by omega) d_L_law_315 ?_
  refine qv_aload_n F d_L_law_316 3 rfl ?_
  refine qv_iload_n F d_L_law_317 0 rfl ?_
  refine qv_iconst F (nI 2) d_L_law_318 ic_2 ?_
  refine qv_iadd F d_L_law_319 ?_
  refine qv_sld F hs (by omega) d_L_law_320 ?_
  refine qv_aload_n F d_L_law_321 3 rfl ?_
  refine qv_iload_n F d_L_law_322 0 rfl ?_
  refine qv_iconst F (nI 3) d_L_law_323 ic_3 ?_
  refine qv_iadd F d_L_law_324 ?_
  refine qv_sld F hs (by omega) d_L_law_325 ?_
  refine i_L_39i F (c_M_load l X _ (xs (i + 1)) (xs (i + 2)) (xs (i + 3)) (by rw [sn2_28]; omega)) (by decide) (Nat.le_of_ble_eq_true rfl) d_L_law_326 ?_
  refine qv_icmpeqE F d_L_law_329 (tgt := 693) rfl (by rw [sn2_28, f1]) ?_
  exact k _ (gl_sn h (fun z => ⟨by decide, om_1 (Bool.and_eq_true_iff.mp z).1, om_2 (Bool.and_eq_true_iff.mp z).1, wi_tn (by decide) (Bool.and_eq_true_iff.mp z).2⟩))
set_option maxRecDepth 100000 in
set_option maxHeartbeats 4000000 in
theorem lk_6 (F : fx_ p s m args c b_L_law 4 R_L X) (hs : sx2_ X b N xs s) (hi : i + 5 ≤ N) (h : Rl_ σ) (k : ∀ τ, Rl_ τ → vv_ p l e room_1 s m args below meth c Q X 4 [(3, .int (nI i)), (2, .ref (adr X 28)), (1, .ref (adr X 0)), (0, .ref b)] τ 693 []) : vv_ p l e room_1 s m args below meth c Q X 4 [(3, .int (nI i)), (2, .ref (adr X 28)), (1, .ref (adr X 0)), (0, .ref b)] σ 334 [] := by
  obtain ⟨⟨⟨e5, e6, e7, e8, e9, e10, e11, e12, e13, e14, e15, e16⟩, ⟨f1, f2, f3, f4, f5, f6, f7, f8⟩, g⟩, ⟨t5, t6, t7, t8, t9, t10, t11, t12, t13, t14, t15, t16⟩, b1, b2, b3, b4, b5, b6, b7⟩ := id h
  refine qv_aload_n F d_L_law_334 2 rfl ?_
  refine qv_aload_n F d_L_law_335 3 rfl ?_
  refine qv_iload_n F d_L_law_336 0 rfl ?_
  refine qv_iconst F (nI 1) d_L_law_337 ic_1 ?_
  refine qv_iadd F d_L_law_338 ?_
  refine qv_sld F hs (by omega) d_L_law_339 ?_
  refine qv_aload_n F d_L_law_340 3 rfl ?_
  refine qv_iload_n F d_L_law_341 0 rfl ?_
  refine qv_iconst F (nI 2) d_L_law_342 ic_2 ?_
  refine qv_iadd F d_L_law_343 ?_
  refine qv_sld F hs (by omega) d_L_law_344 ?_
  refine i_L_40i F (c_P_call l X σ (xs (i + 1)) (xs (i + 2)) b2) (by decide) (Nat.le_of_ble_eq_true rfl) d_L_law_345 ?_
  refine qv_aload_n F d_L_law_348 1 rfl ?_
  refine qv_aload_n F d_L_law_349 3 rfl ?_
  refine qv_iload_n F d_L_law_350 0 rfl ?_
  refine qv_iconst F (nI 1) d_L_law_351 ic_1 ?_
  refine qv_iadd F d_L_law_352 ?_
  refine qv_sld F hs (by omega) d_L_law_353 ?_
  refine qv_aload_n F d_L_law_354 3 rfl ?_
  refine qv_iload_n F d_L_law_355 0 rfl ?_
  refine qv_iconst F (nI 2) d_L_law_356 ic_2 ?_
  refine qv_iadd F d_L_law_357 ?_
  refine qv_sld F hs (by omega) d_L_law_358 ?_
  refine i_L_43i F (c_M_call l X _ (xs (i + 1)) (xs (i + 2)) (by rw [cs2_28]; omega)) (by decide) (Nat.le_of_ble_eq_true rfl) d_L_law_359 ?_
  refine qv_icmpeqE F d_L_law_362 (tgt := 693) rfl (by rw [cs2_28, f2]) ?_
  exact k _ (gl_cs h (fun z => ⟨wi_tn (by decide) (Bool.and_eq_true_iff.mp z).1, wi_tn (by decide) (Bool.and_eq_true_iff.mp z).2⟩))
set_option maxRecDepth 100000 in
set_option maxHeartbeats 4000000 in
theorem lk_7 (F : fx_ p s m args c b_L_law 4 R_L X) (hs : sx2_ X b N xs s) (hi : i + 5 ≤ N) (h : Rl_ σ) (k : ∀ τ, Rl_ τ → vv_ p l e room_1 s m args below meth c Q X 4 [(3, .int (nI i)), (2, .ref (adr X 28)), (1, .ref (adr X 0)), (0, .ref b)] τ 693 []) : vv_ p l e room_1 s m args below meth c Q X 4 [(3, .int (nI i)), (2, .ref (adr X 28)), (1, .ref (adr X 0)), (0, .ref b)] σ 367 [] := by
  obtain ⟨⟨⟨e5, e6, e7, e8, e9, e10, e11, e12, e13, e14, e15, e16⟩, ⟨f1, f2, f3, f4, f5, f6, f7, f8⟩, g⟩, ⟨t5, t6, t7, t8, t9, t10, t11, t12, t13, t14, t15, t16⟩, b1, b2, b3, b4, b5, b6, b7⟩ := id h
  refine qv_aload_n F d_L_law_367 2 rfl ?_
  refine qv_aload_n F d_L_law_368 3 rfl ?_
  refine qv_iload_n F d_L_law_369 0 rfl ?_
  refine qv_iconst F (nI 1) d_L_law_370 ic_1 ?_
  refine qv_iadd F d_L_law_371 ?_
  refine qv_sld F hs (by omega) d_L_law_372 ?_
  refine qv_aload_n F d_L_law_373 3 rfl ?_
  refine qv_iload_n F d_L_law_374 0 rfl ?_
  refine qv_iconst F (nI 2) d_L_law_375 ic_2 ?_
  refine qv_iadd F d_L_law_376 ?_
  refine qv_sld F hs (by omega) d_L_law_377 ?_
  refine qv_aload_n F d_L_law_378 3 rfl ?_
  refine qv_iload_n F d_L_law_379 0 rfl ?_
  refine qv_iconst F (nI 3) d_L_law_380 ic_3 ?_
  refine qv_iadd F d_L_law_381 ?_
  refine qv_sld F hs (by omega) d_L_law_382 ?_
  refine qv_aload_n F d_L_law_383 3 rfl ?_
  refine qv_iload_n F d_L_law_384 0 rfl ?_
  refine qv_iconst F (nI 4) d_L_law_385 ic_4 ?_
  refine qv_iadd F d_L_law_386 ?_
  refine qv_sld F hs (by omega) d_L_law_387 ?_
  refine qv_ifeqI F d_L_law_388 rfl (fun hb => ?_) (fun hb => ?_)
  ·
    refine qv_iconst F (nI 0) d_L_law_395 ic_0 ?_
    refine i_L_44i F (show mt_ l X y_P_pass w_P_pass 3 _ σ (ei_ _ (pc2_ σ (xs (i + 1)) (xs (i + 2)) (xs (i + 3)) false)) from c_P_pass l X σ (xs (i + 1)) (xs (i + 2)) (xs (i + 3)) false b2 t11 t12 t13) (by decide) (Nat.le_of_ble_eq_true rfl) d_L_law_396 ?_
    refine qv_aload_n F d_L_law_399 1 rfl ?_
    refine qv_aload_n F d_L_law_400 3 rfl ?_
    refine qv_iload_n F d_L_law_401 0 rfl ?_
    refine qv_iconst F (nI 1) d_L_law_402 ic_1 ?_
    refine qv_iadd F d_L_law_403 ?_
    refine qv_sld F hs (by omega) d_L_law_404 ?_
    refine qv_aload_n F d_L_law_405 3 rfl ?_
    refine qv_iload_n F d_L_law_406 0 rfl ?_
    refine qv_iconst F (nI 2) d_L_law_407 ic_2 ?_
    refine qv_iadd F d_L_law_408 ?_
    refine qv_sld F hs (by omega) d_L_law_409 ?_
    refine qv_aload_n F d_L_law_410 3 rfl ?_
    refine qv_iload_n F d_L_law_411 0 rfl ?_
    refine qv_iconst F (nI 3) d_L_law_412 ic_3 ?_
    refine qv_iadd F d_L_law_413 ?_
    refine qv_sld F hs (by omega) d_L_law_414 ?_
    refine qv_aload_n F d_L_law_415 3 rfl ?_
    refine qv_iload_n F d_L_law_416 0 rfl ?_
    refine qv_iconst F (nI 4) d_L_law_417 ic_4 ?_
    refine qv_iadd F d_L_law_418 ?_
    refine qv_sld F hs (by omega) d_L_law_419 ?_
    refine qv_ifeqI F d_L_law_420 rfl (fun hb => ?_) (fun hb => ?_)
    ·
      refine qv_iconst F (nI 0) d_L_law_427 ic_0 ?_
      refine i_L_48i F (show mt_ l X y_M_pass w_M_pass 1 _ (pc2_ σ (xs (i + 1)) (xs (i + 2)) (xs (i + 3)) false) (ei_ _ (pcM_ (pc2_ σ (xs (i + 1)) (xs (i + 2)) (xs (i + 3)) false) (xs (i + 1)) (xs (i + 2)) (xs (i + 3)) false)) from c_M_pass l X _ (xs (i + 1)) (xs (i + 2)) (xs (i + 3)) false (by rw [pc2_hi (by decide)]; omega) (fun k => by rw [pc2_hi (by decide), e11]; exact t11 k) (fun k => by rw [pc2_hi (by decide), e12]; exact t12 k) (fun k => by rw [pc2_hi (by decide), e13]; exact t13 k)) (by decide) (Nat.le_of_ble_eq_true rfl) d_L_law_428 ?_
      refine qv_icmpeqE F d_L_law_431 (tgt := 693) rfl (by rw [pc2_hi (a := 28) (by decide), mp_pc h, pc2_hi (a := 37) (by decide), e13]) ?_
      exact k _ (gl_pc h _ _ _ _)
    ·
      exact absurd ‹xs (i + 4) = 0› ‹¬ xs (i + 4) = 0›
  ·
    refine qv_iconst F (nI 1) d_L_law_391 ic_1 ?_
    refine qv_goto F d_L_law_392 rfl ?_
    refine i_L_44i F (show mt_ l X y_P_pass w_P_pass 3 _ σ (ei_ _ (pc2_ σ (xs (i + 1)) (xs (i + 2)) (xs (i + 3)) true)) from c_P_pass l X σ (xs (i + 1)) (xs (i + 2)) (xs (i + 3)) true b2 t11 t12 t13) (by decide) (Nat.le_of_ble_eq_true rfl) d_L_law_396 ?_
    refine qv_aload_n F d_L_law_399 1 rfl ?_
    refine qv_aload_n F d_L_law_400 3 rfl ?_
    refine qv_iload_n F d_L_law_401 0 rfl ?_
    refine qv_iconst F (nI 1) d_L_law_402 ic_1 ?_
    refine qv_iadd F d_L_law_403 ?_
    refine qv_sld F hs (by omega) d_L_law_404 ?_
    refine qv_aload_n F d_L_law_405 3 rfl ?_
    refine qv_iload_n F d_L_law_406 0 rfl ?_
    refine qv_iconst F (nI 2) d_L_law_407 ic_2 ?_
    refine qv_iadd F d_L_law_408 ?_
    refine qv_sld F hs (by omega) d_L_law_409 ?_
    refine qv_aload_n F d_L_law_410 3 rfl ?_
    refine qv_iload_n F d_L_law_411 0 rfl ?_
    refine qv_iconst F (nI 3) d_L_law_412 ic_3 ?_
    refine qv_iadd F d_L_law_413 ?_
    refine qv_sld F hs (by omega) d_L_law_414 ?_
    refine qv_aload_n F d_L_law_415 3 rfl ?_
    refine qv_iload_n F d_L_law_416 0 rfl ?_
    refine qv_iconst F (nI 4) d_L_law_417 ic_4 ?_
    refine qv_iadd F d_L_law_418 ?_
    refine qv_sld F hs (by omega) d_L_law_419 ?_
    refine qv_ifeqI F d_L_law_420 rfl (fun hb => ?_) (fun hb => ?_)
    ·
      exact absurd ‹xs (i + 4) = 0› ‹¬ xs (i + 4) = 0›
    ·
      refine qv_iconst F (nI 1) d_L_law_423 ic_1 ?_
      refine qv_goto F d_L_law_424 rfl ?_
      refine i_L_48i F (show mt_ l X y_M_pass w_M_pass 1 _ (pc2_ σ (xs (i + 1)) (xs (i + 2)) (xs (i + 3)) true) (ei_ _ (pcM_ (pc2_ σ (xs (i + 1)) (xs (i + 2)) (xs (i + 3)) true) (xs (i + 1)) (xs (i + 2)) (xs (i + 3)) true)) from c_M_pass l X _ (xs (i + 1)) (xs (i + 2)) (xs (i + 3)) true (by rw [pc2_hi (by decide)]; omega) (fun k => by rw [pc2_hi (by decide), e11]; exact t11 k) (fun k => by rw [pc2_hi (by decide), e12]; exact t12 k) (fun k => by rw [pc2_hi (by decide), e13]; exact t13 k)) (by decide) (Nat.le_of_ble_eq_true rfl) d_L_law_428 ?_
      refine qv_icmpeqE F d_L_law_431 (tgt := 693) rfl (by rw [pc2_hi (a := 28) (by decide), mp_pc h, pc2_hi (a := 37) (by decide), e13]) ?_
      exact k _ (gl_pc h _ _ _ _)
set_option maxRecDepth 100000 in
set_option maxHeartbeats 4000000 in
theorem lk_8 (F : fx_ p s m args c b_L_law 4 R_L X) (hs : sx2_ X b N xs s) (hi : i + 5 ≤ N) (h : Rl_ σ) (k : ∀ τ, Rl_ τ → vv_ p l e room_1 s m args below meth c Q X 4 [(3, .int (nI i)), (2, .ref (adr X 28)), (1, .ref (adr X 0)), (0, .ref b)] τ 693 []) : vv_ p l e room_1 s m args below meth c Q X 4 [(3, .int (nI i)), (2, .ref (adr X 28)), (1, .ref (adr X 0)), (0, .ref b)] σ 436 [] := by
  obtain ⟨⟨⟨e5, e6, e7, e8, e9, e10, e11, e12, e13, e14, e15, e16⟩, ⟨f1, f2, f3, f4, f5, f6, f7, f8⟩, g⟩, ⟨t5, t6, t7, t8, t9, t10, t11, t12, t13, t14, t15, t16⟩, b1, b2, b3, b4, b5, b6, b7⟩ := id h
  refine qv_aload_n F d_L_law_436 2 rfl ?_
  refine i_L_49i F (show mt_ l X y_P_solve w_P_solve 6 _ σ (ei_ _ (sv2_ σ)) from c_P_solve l X σ b1 b2 ⟨t5, t6, t7, t8, t9, t10, t11, t12, t13, t14, t15, t16⟩) (by decide) (Nat.le_of_ble_eq_true rfl) d_L_law_437 ?_
  refine qv_aload_n F d_L_law_440 1 rfl ?_
  refine i_L_53i F (show mt_ l X y_M_solve w_M_solve 4 _ (sv2_ σ) (ei_ _ (svM_ (sv2_ σ))) from c_M_solve l X _ (by rw [sv2_hi (by decide)]; omega) (by rw [sv2_hi (by decide)]; omega) (by rw [mo_sv]; exact tw_mo h)) (by decide) (Nat.le_of_ble_eq_true rfl) d_L_law_441 ?_
  refine qv_icmpeqE F d_L_law_444 (tgt := 693) rfl (by rw [gM_sv h, fs_sv h]) ?_
  exact k _ (gl_sv h)
set_option maxRecDepth 100000 in
set_option maxHeartbeats 4000000 in
theorem lk_9 (F : fx_ p s m args c b_L_law 4 R_L X) (hs : sx2_ X b N xs s) (hi : i + 5 ≤ N) (h : Rl_ σ) (k : ∀ τ, Rl_ τ → vv_ p l e room_1 s m args below meth c Q X 4 [(3, .int (nI i)), (2, .ref (adr X 28)), (1, .ref (adr X 0)), (0, .ref b)] τ 693 []) : vv_ p l e room_1 s m args below meth c Q X 4 [(3, .int (nI i)), (2, .ref (adr X 28)), (1, .ref (adr X 0)), (0, .ref b)] σ 449 [] := by
  obtain ⟨⟨⟨e5, e6, e7, e8, e9, e10, e11, e12, e13, e14, e15, e16⟩, ⟨f1, f2, f3, f4, f5, f6, f7, f8⟩, g⟩, ⟨t5, t6, t7, t8, t9, t10, t11, t12, t13, t14, t15, t16⟩, b1, b2, b3, b4, b5, b6, b7⟩ := id h
  refine qv_aload_n F d_L_law_449 2 rfl ?_
  refine qv_aload_n F d_L_law_450 3 rfl ?_
  refine qv_iload_n F d_L_law_451 0 rfl ?_
  refine qv_iconst F (nI 1) d_L_law_452 ic_1 ?_
  refine qv_iadd F d_L_law_453 ?_
  refine qv_sld F hs (by omega) d_L_law_454 ?_
  refine qv_aload_n F d_L_law_455 3 rfl ?_
  refine qv_iload_n F d_L_law_456 0 rfl ?_
  refine qv_iconst F (nI 2) d_L_law_457 ic_2 ?_
  refine qv_iadd F d_L_law_458 ?_
  refine qv_sld F hs (by omega) d_L_law_459 ?_
  refine i_L_54i F (c_P_points l X σ (xs (i + 1)) (xs (i + 2)) b4) (by decide) (Nat.le_of_ble_eq_true rfl) d_L_law_460 ?_
  refine qv_aload_n F d_L_law_463 1 rfl ?_
  refine qv_aload_n F d_L_law_464 3 rfl ?_
  refine qv_iload_n F d_L_law_465 0 rfl ?_
  refine qv_iconst F (nI 1) d_L_law_466 ic_1 ?_
  refine qv_iadd F d_L_law_467 ?_
  refine qv_sld F hs (by omega) d_L_law_468 ?_
  refine qv_aload_n F d_L_law_469 3 rfl ?_
  refine qv_iload_n F d_L_law_470 0 rfl ?_
  refine qv_iconst F (nI 2) d_L_law_471 ic_2 ?_
  refine qv_iadd F d_L_law_472 ?_
  refine qv_sld F hs (by omega) d_L_law_473 ?_
  refine i_L_57i F (c_M_points l X σ (xs (i + 1)) (xs (i + 2)) (fun k => by rw [f3]; exact b4 k)) (by decide) (Nat.le_of_ble_eq_true rfl) d_L_law_474 ?_
  refine qv_icmpeqE F d_L_law_477 (tgt := 693) rfl (by rw [f3, f6]) ?_
  exact k _ h
set_option maxRecDepth 100000 in
set_option maxHeartbeats 4000000 in
theorem lk_10 (F : fx_ p s m args c b_L_law 4 R_L X) (hs : sx2_ X b N xs s) (hi : i + 5 ≤ N) (h : Rl_ σ) (k : ∀ τ, Rl_ τ → vv_ p l e room_1 s m args below meth c Q X 4 [(3, .int (nI i)), (2, .ref (adr X 28)), (1, .ref (adr X 0)), (0, .ref b)] τ 693 []) : vv_ p l e room_1 s m args below meth c Q X 4 [(3, .int (nI i)), (2, .ref (adr X 28)), (1, .ref (adr X 0)), (0, .ref b)] σ 482 [] := by
  obtain ⟨⟨⟨e5, e6, e7, e8, e9, e10, e11, e12, e13, e14, e15, e16⟩, ⟨f1, f2, f3, f4, f5, f6, f7, f8⟩, g⟩, ⟨t5, t6, t7, t8, t9, t10, t11, t12, t13, t14, t15, t16⟩, b1, b2, b3, b4, b5, b6, b7⟩ := id h
  refine qv_aload_n F d_L_law_482 2 rfl ?_
  refine qv_aload_n F d_L_law_483 3 rfl ?_
  refine qv_iload_n F d_L_law_484 0 rfl ?_
  refine qv_iconst F (nI 1) d_L_law_485 ic_1 ?_
  refine qv_iadd F d_L_law_486 ?_
  refine qv_sld F hs (by omega) d_L_law_487 ?_
  refine qv_aload_n F d_L_law_488 3 rfl ?_
  refine qv_iload_n F d_L_law_489 0 rfl ?_
  refine qv_iconst F (nI 2) d_L_law_490 ic_2 ?_
  refine qv_iadd F d_L_law_491 ?_
  refine qv_sld F hs (by omega) d_L_law_492 ?_
  refine i_L_58i F (c_P_holds l X σ (xs (i + 1)) (xs (i + 2))) (by decide) (Nat.le_of_ble_eq_true rfl) d_L_law_493 ?_
  refine qv_aload_n F d_L_law_496 1 rfl ?_
  refine qv_aload_n F d_L_law_497 3 rfl ?_
  refine qv_iload_n F d_L_law_498 0 rfl ?_
  refine qv_iconst F (nI 1) d_L_law_499 ic_1 ?_
  refine qv_iadd F d_L_law_500 ?_
  refine qv_sld F hs (by omega) d_L_law_501 ?_
  refine qv_aload_n F d_L_law_502 3 rfl ?_
  refine qv_iload_n F d_L_law_503 0 rfl ?_
  refine qv_iconst F (nI 2) d_L_law_504 ic_2 ?_
  refine qv_iadd F d_L_law_505 ?_
  refine qv_sld F hs (by omega) d_L_law_506 ?_
  refine i_L_61i F (c_M_holds l X σ (xs (i + 1)) (xs (i + 2))) (by decide) (Nat.le_of_ble_eq_true rfl) d_L_law_507 ?_
  refine qv_icmpeqE F d_L_law_510 (tgt := 693) rfl (by rw [f7]) ?_
  exact k _ h
set_option maxRecDepth 100000 in
set_option maxHeartbeats 4000000 in
theorem lk_11 (F : fx_ p s m args c b_L_law 4 R_L X) (hs : sx2_ X b N xs s) (hi : i + 5 ≤ N) (h : Rl_ σ) (k : ∀ τ, Rl_ τ → vv_ p l e room_1 s m args below meth c Q X 4 [(3, .int (nI i)), (2, .ref (adr X 28)), (1, .ref (adr X 0)), (0, .ref b)] τ 693 []) : vv_ p l e room_1 s m args below meth c Q X 4 [(3, .int (nI i)), (2, .ref (adr X 28)), (1, .ref (adr X 0)), (0, .ref b)] σ 515 [] := by
  obtain ⟨⟨⟨e5, e6, e7, e8, e9, e10, e11, e12, e13, e14, e15, e16⟩, ⟨f1, f2, f3, f4, f5, f6, f7, f8⟩, g⟩, ⟨t5, t6, t7, t8, t9, t10, t11, t12, t13, t14, t15, t16⟩, b1, b2, b3, b4, b5, b6, b7⟩ := id h
  refine qv_aload_n F d_L_law_515 2 rfl ?_
  refine qv_aload_n F d_L_law_516 3 rfl ?_
  refine qv_iload_n F d_L_law_517 0 rfl ?_
  refine qv_iconst F (nI 1) d_L_law_518 ic_1 ?_
  refine qv_iadd F d_L_law_519 ?_
  refine qv_sld F hs (by omega) d_L_law_520 ?_
  refine i_L_62i F (c_P_contexts l X σ (xs (i + 1))) (by decide) (Nat.le_of_ble_eq_true rfl) d_L_law_521 ?_
  refine qv_aload_n F d_L_law_524 1 rfl ?_
  refine qv_aload_n F d_L_law_525 3 rfl ?_
  refine qv_iload_n F d_L_law_526 0 rfl ?_
  refine qv_iconst F (nI 1) d_L_law_527 ic_1 ?_
  refine qv_iadd F d_L_law_528 ?_
  refine qv_sld F hs (by omega) d_L_law_529 ?_
  refine i_L_66i F (c_M_contexts l X σ (xs (i + 1))) (by decide) (Nat.le_of_ble_eq_true rfl) d_L_law_530 ?_
  refine qv_icmpeqE F d_L_law_533 (tgt := 693) rfl (by rw [f3]) ?_
  exact k _ h
set_option maxRecDepth 100000 in
set_option maxHeartbeats 4000000 in
theorem lk_12 (F : fx_ p s m args c b_L_law 4 R_L X) (hs : sx2_ X b N xs s) (hi : i + 5 ≤ N) (h : Rl_ σ) (k : ∀ τ, Rl_ τ → vv_ p l e room_1 s m args below meth c Q X 4 [(3, .int (nI i)), (2, .ref (adr X 28)), (1, .ref (adr X 0)), (0, .ref b)] τ 693 []) : vv_ p l e room_1 s m args below meth c Q X 4 [(3, .int (nI i)), (2, .ref (adr X 28)), (1, .ref (adr X 0)), (0, .ref b)] σ 538 [] := by
  obtain ⟨⟨⟨e5, e6, e7, e8, e9, e10, e11, e12, e13, e14, e15, e16⟩, ⟨f1, f2, f3, f4, f5, f6, f7, f8⟩, g⟩, ⟨t5, t6, t7, t8, t9, t10, t11, t12, t13, t14, t15, t16⟩, b1, b2, b3, b4, b5, b6, b7⟩ := id h
  refine qv_aload_n F d_L_law_538 2 rfl ?_
  refine qv_aload_n F d_L_law_539 3 rfl ?_
  refine qv_iload_n F d_L_law_540 0 rfl ?_
  refine qv_iconst F (nI 1) d_L_law_541 ic_1 ?_
  refine qv_iadd F d_L_law_542 ?_
  refine qv_sld F hs (by omega) d_L_law_543 ?_
  refine qv_aload_n F d_L_law_544 3 rfl ?_
  refine qv_iload_n F d_L_law_545 0 rfl ?_
  refine qv_iconst F (nI 2) d_L_law_546 ic_2 ?_
  refine qv_iadd F d_L_law_547 ?_
  refine qv_sld F hs (by omega) d_L_law_548 ?_
  refine i_L_67i F (c_P_context l X σ (xs (i + 1)) (xs (i + 2)) (by omega) t11 b4) (by decide) (Nat.le_of_ble_eq_true rfl) d_L_law_549 ?_
  refine qv_aload_n F d_L_law_552 1 rfl ?_
  refine qv_aload_n F d_L_law_553 3 rfl ?_
  refine qv_iload_n F d_L_law_554 0 rfl ?_
  refine qv_iconst F (nI 1) d_L_law_555 ic_1 ?_
  refine qv_iadd F d_L_law_556 ?_
  refine qv_sld F hs (by omega) d_L_law_557 ?_
  refine qv_aload_n F d_L_law_558 3 rfl ?_
  refine qv_iload_n F d_L_law_559 0 rfl ?_
  refine qv_iconst F (nI 2) d_L_law_560 ic_2 ?_
  refine qv_iadd F d_L_law_561 ?_
  refine qv_sld F hs (by omega) d_L_law_562 ?_
  refine i_L_70i F (c_M_context l X σ (xs (i + 1)) (xs (i + 2)) (by omega) (fun k hk => by rw [g k (by omega)]; exact t11 k) (fun k => by rw [f3]; exact b4 k)) (by decide) (Nat.le_of_ble_eq_true rfl) d_L_law_563 ?_
  refine qv_icmpeqE F d_L_law_566 (tgt := 693) rfl (gl_cx h _ _) ?_
  exact k _ h
set_option maxRecDepth 100000 in
set_option maxHeartbeats 4000000 in
theorem lk_13 (F : fx_ p s m args c b_L_law 4 R_L X) (hs : sx2_ X b N xs s) (hi : i + 5 ≤ N) (h : Rl_ σ) (k : ∀ τ, Rl_ τ → vv_ p l e room_1 s m args below meth c Q X 4 [(3, .int (nI i)), (2, .ref (adr X 28)), (1, .ref (adr X 0)), (0, .ref b)] τ 693 []) : vv_ p l e room_1 s m args below meth c Q X 4 [(3, .int (nI i)), (2, .ref (adr X 28)), (1, .ref (adr X 0)), (0, .ref b)] σ 571 [] := by
  obtain ⟨⟨⟨e5, e6, e7, e8, e9, e10, e11, e12, e13, e14, e15, e16⟩, ⟨f1, f2, f3, f4, f5, f6, f7, f8⟩, g⟩, ⟨t5, t6, t7, t8, t9, t10, t11, t12, t13, t14, t15, t16⟩, b1, b2, b3, b4, b5, b6, b7⟩ := id h
  refine qv_aload_n F d_L_law_571 2 rfl ?_
  refine qv_aload_n F d_L_law_572 3 rfl ?_
  refine qv_iload_n F d_L_law_573 0 rfl ?_
  refine qv_iconst F (nI 1) d_L_law_574 ic_1 ?_
  refine qv_iadd F d_L_law_575 ?_
  refine qv_sld F hs (by omega) d_L_law_576 ?_
  refine qv_aload_n F d_L_law_577 3 rfl ?_
  refine qv_iload_n F d_L_law_578 0 rfl ?_
  refine qv_iconst F (nI 2) d_L_law_579 ic_2 ?_
  refine qv_iadd F d_L_law_580 ?_
  refine qv_sld F hs (by omega) d_L_law_581 ?_
  refine qv_aload_n F d_L_law_582 3 rfl ?_
  refine qv_iload_n F d_L_law_583 0 rfl ?_
  refine qv_iconst F (nI 3) d_L_law_584 ic_3 ?_
  refine qv_iadd F d_L_law_585 ?_
  refine qv_sld F hs (by omega) d_L_law_586 ?_
  refine qv_aload_n F d_L_law_587 3 rfl ?_
  refine qv_iload_n F d_L_law_588 0 rfl ?_
  refine qv_iconst F (nI 4) d_L_law_589 ic_4 ?_
  refine qv_iadd F d_L_law_590 ?_
  refine qv_sld F hs (by omega) d_L_law_591 ?_
  refine i_L_71i F (c_P_alias l X σ (xs (i + 1)) (xs (i + 2)) (xs (i + 3)) (xs (i + 4)) b4 b5) (by decide) (Nat.le_of_ble_eq_true rfl) d_L_law_592 ?_
  refine qv_aload_n F d_L_law_595 1 rfl ?_
  refine qv_aload_n F d_L_law_596 3 rfl ?_
  refine qv_iload_n F d_L_law_597 0 rfl ?_
  refine qv_iconst F (nI 1) d_L_law_598 ic_1 ?_
  refine qv_iadd F d_L_law_599 ?_
  refine qv_sld F hs (by omega) d_L_law_600 ?_
  refine qv_aload_n F d_L_law_601 3 rfl ?_
  refine qv_iload_n F d_L_law_602 0 rfl ?_
  refine qv_iconst F (nI 2) d_L_law_603 ic_2 ?_
  refine qv_iadd F d_L_law_604 ?_
  refine qv_sld F hs (by omega) d_L_law_605 ?_
  refine qv_aload_n F d_L_law_606 3 rfl ?_
  refine qv_iload_n F d_L_law_607 0 rfl ?_
  refine qv_iconst F (nI 3) d_L_law_608 ic_3 ?_
  refine qv_iadd F d_L_law_609 ?_
  refine qv_sld F hs (by omega) d_L_law_610 ?_
  refine qv_aload_n F d_L_law_611 3 rfl ?_
  refine qv_iload_n F d_L_law_612 0 rfl ?_
  refine qv_iconst F (nI 4) d_L_law_613 ic_4 ?_
  refine qv_iadd F d_L_law_614 ?_
  refine qv_sld F hs (by omega) d_L_law_615 ?_
  refine i_L_75i F (c_M_alias l X σ (xs (i + 1)) (xs (i + 2)) (xs (i + 3)) (xs (i + 4)) (fun k => by rw [f3]; exact b4 k) (fun k => by rw [f6]; exact b5 k)) (by decide) (Nat.le_of_ble_eq_true rfl) d_L_law_616 ?_
  refine qv_icmpeqE F d_L_law_619 (tgt := 693) rfl (by rw [f3, f6]) ?_
  exact k _ h
set_option maxRecDepth 100000 in
set_option maxHeartbeats 4000000 in
theorem lk_14 (F : fx_ p s m args c b_L_law 4 R_L X) (hs : sx2_ X b N xs s) (hi : i + 5 ≤ N) (h : Rl_ σ) (k : ∀ τ, Rl_ τ → vv_ p l e room_1 s m args below meth c Q X 4 [(3, .int (nI i)), (2, .ref (adr X 28)), (1, .ref (adr X 0)), (0, .ref b)] τ 693 []) : vv_ p l e room_1 s m args below meth c Q X 4 [(3, .int (nI i)), (2, .ref (adr X 28)), (1, .ref (adr X 0)), (0, .ref b)] σ 624 [] := by
  obtain ⟨⟨⟨e5, e6, e7, e8, e9, e10, e11, e12, e13, e14, e15, e16⟩, ⟨f1, f2, f3, f4, f5, f6, f7, f8⟩, g⟩, ⟨t5, t6, t7, t8, t9, t10, t11, t12, t13, t14, t15, t16⟩, b1, b2, b3, b4, b5, b6, b7⟩ := id h
  refine qv_aload_n F d_L_law_624 2 rfl ?_
  refine qv_aload_n F d_L_law_625 3 rfl ?_
  refine qv_iload_n F d_L_law_626 0 rfl ?_
  refine qv_iconst F (nI 1) d_L_law_627 ic_1 ?_
  refine qv_iadd F d_L_law_628 ?_
  refine qv_sld F hs (by omega) d_L_law_629 ?_
  refine i_L_76i F (c_P_order l X σ (xs (i + 1))) (by decide) (Nat.le_of_ble_eq_true rfl) d_L_law_630 ?_
  refine qv_aload_n F d_L_law_633 1 rfl ?_
  refine qv_aload_n F d_L_law_634 3 rfl ?_
  refine qv_iload_n F d_L_law_635 0 rfl ?_
  refine qv_iconst F (nI 1) d_L_law_636 ic_1 ?_
  refine qv_iadd F d_L_law_637 ?_
  refine qv_sld F hs (by omega) d_L_law_638 ?_
  refine i_L_80i F (c_M_order l X _ (xs (i + 1))) (by decide) (Nat.le_of_ble_eq_true rfl) d_L_law_639 ?_
  refine qv_icmpeqE F d_L_law_642 (tgt := 693) rfl rfl ?_
  exact k _ (gl_order h _)
set_option maxRecDepth 100000 in
set_option maxHeartbeats 4000000 in
theorem lk_15 (F : fx_ p s m args c b_L_law 4 R_L X) (hs : sx2_ X b N xs s) (hi : i + 5 ≤ N) (h : Rl_ σ) (k : ∀ τ, Rl_ τ → vv_ p l e room_1 s m args below meth c Q X 4 [(3, .int (nI i)), (2, .ref (adr X 28)), (1, .ref (adr X 0)), (0, .ref b)] τ 693 []) : vv_ p l e room_1 s m args below meth c Q X 4 [(3, .int (nI i)), (2, .ref (adr X 28)), (1, .ref (adr X 0)), (0, .ref b)] σ 647 [] := by
  obtain ⟨⟨⟨e5, e6, e7, e8, e9, e10, e11, e12, e13, e14, e15, e16⟩, ⟨f1, f2, f3, f4, f5, f6, f7, f8⟩, g⟩, ⟨t5, t6, t7, t8, t9, t10, t11, t12, t13, t14, t15, t16⟩, b1, b2, b3, b4, b5, b6, b7⟩ := id h
  refine qv_aload_n F d_L_law_647 2 rfl ?_
  refine qv_aload_n F d_L_law_648 3 rfl ?_
  refine qv_iload_n F d_L_law_649 0 rfl ?_
  refine qv_iconst F (nI 1) d_L_law_650 ic_1 ?_
  refine qv_iadd F d_L_law_651 ?_
  refine qv_sld F hs (by omega) d_L_law_652 ?_
  refine i_L_81p F (c_P_nodes l X σ (xs (i + 1)) b7 b5 b6) (by decide) (Nat.le_of_ble_eq_true rfl) d_L_law_653 (fun r τ hp => ?_)
  rcases hp with ⟨q1, rfl, rfl⟩ | ⟨w, hw, q1, rfl, q2⟩
  · refine qv_stk (st' := [.int (-1)]) rfl ?_
    refine qv_aload_n F d_L_law_656 1 rfl ?_
    refine qv_aload_n F d_L_law_657 3 rfl ?_
    refine qv_iload_n F d_L_law_658 0 rfl ?_
    refine qv_iconst F (nI 1) d_L_law_659 ic_1 ?_
    refine qv_iadd F d_L_law_660 ?_
    refine qv_sld F hs (by omega) d_L_law_661 ?_
    refine i_L_84p F (c_M_nodes l X _ (xs (i + 1)) (by omega) (fun k => by rw [f6]; exact b5 k) (fun k => by rw [f7]; exact b6 k)) (by decide) (Nat.le_of_ble_eq_true rfl) d_L_law_662 (fun r τ hp => ?_)
    rcases hp with ⟨q3, rfl, rfl⟩ | ⟨w, hw, q3, rfl, q4⟩
    · refine qv_stk (st' := [.int (-1), .int (-1)]) rfl ?_
      refine qv_icmpeqE F d_L_law_665 (tgt := 693) rfl rfl ?_
      exact k _ h
    · rw [q3, wi_y (by decide) hw] at q1; cases q1
  · refine qv_stk (st' := [.int (nI (nd_ w (σ 0 4) (if w = 0 then σ 21 else σ 22)))]) rfl ?_
    refine qv_aload_n F d_L_law_656 1 rfl ?_
    refine qv_aload_n F d_L_law_657 3 rfl ?_
    refine qv_iload_n F d_L_law_658 0 rfl ?_
    refine qv_iconst F (nI 1) d_L_law_659 ic_1 ?_
    refine qv_iadd F d_L_law_660 ?_
    refine qv_sld F hs (by omega) d_L_law_661 ?_
    have u28 : τ 28 = σ 28 := q2 28 (by decide) (by decide) (by decide) (by decide) (by decide)
    have u46 : τ 46 = σ 46 := q2 46 (by decide) (by decide) (by decide) (by decide) (by decide)
    have u47 : τ 47 = σ 47 := q2 47 (by decide) (by decide) (by decide) (by decide) (by decide)
    refine i_L_84p F (c_M_nodes l X τ (xs (i + 1)) (by rw [u28]; omega) (fun k => by rw [u46, f6]; exact b5 k) (fun k => by rw [u47, f7]; exact b6 k)) (by decide) (Nat.le_of_ble_eq_true rfl) d_L_law_662 (fun r2 τ2 hp => ?_)
    rcases hp with ⟨q3, rfl, rfl⟩ | ⟨w2, hw2, q3, rfl, q4⟩
    · rw [q1, wi_y (by decide) hw] at q3; cases q3
    · refine qv_stk (st' := [.int (nI (nd_ w2 (τ 28 22) (if w2 = 0 then τ 46 else τ 47))), .int (nI (nd_ w (σ 0 4) (if w = 0 then σ 21 else σ 22)))]) rfl ?_
      obtain rfl : w = w2 := (nI_eq (by omega) (by omega)).mp (q1.symm.trans q3)
      refine qv_icmpeqE F d_L_law_665 (tgt := 693) rfl (by rw [u28, u46, u47, f6, f7, f8]) ?_
      exact k _ (gl_sc h q2 q4)
set_option maxRecDepth 100000 in
set_option maxHeartbeats 4000000 in
theorem lk_16 (F : fx_ p s m args c b_L_law 4 R_L X) (hs : sx2_ X b N xs s) (hi : i + 5 ≤ N) (h : Rl_ σ) (k : ∀ τ, Rl_ τ → vv_ p l e room_1 s m args below meth c Q X 4 [(3, .int (nI i)), (2, .ref (adr X 28)), (1, .ref (adr X 0)), (0, .ref b)] τ 693 []) : vv_ p l e room_1 s m args below meth c Q X 4 [(3, .int (nI i)), (2, .ref (adr X 28)), (1, .ref (adr X 0)), (0, .ref b)] σ 670 [] := by
  obtain ⟨⟨⟨e5, e6, e7, e8, e9, e10, e11, e12, e13, e14, e15, e16⟩, ⟨f1, f2, f3, f4, f5, f6, f7, f8⟩, g⟩, ⟨t5, t6, t7, t8, t9, t10, t11, t12, t13, t14, t15, t16⟩, b1, b2, b3, b4, b5, b6, b7⟩ := id h
  refine qv_aload_n F d_L_law_670 2 rfl ?_
  refine qv_aload_n F d_L_law_671 3 rfl ?_
  refine qv_iload_n F d_L_law_672 0 rfl ?_
  refine qv_iconst F (nI 1) d_L_law_673 ic_1 ?_
  refine qv_iadd F d_L_law_674 ?_
  refine qv_sld F hs (by omega) d_L_law_675 ?_
  refine i_L_85i F (c_P_size l X σ (xs (i + 1)) b2 t13 b6) (by decide) (Nat.le_of_ble_eq_true rfl) d_L_law_676 ?_
  refine qv_aload_n F d_L_law_679 1 rfl ?_
  refine qv_aload_n F d_L_law_680 3 rfl ?_
  refine qv_iload_n F d_L_law_681 0 rfl ?_
  refine qv_iconst F (nI 1) d_L_law_682 ic_1 ?_
  refine qv_iadd F d_L_law_683 ?_
  refine qv_sld F hs (by omega) d_L_law_684 ?_
  refine i_L_88i F (c_M_size l X σ (xs (i + 1)) (by omega) (fun k => by rw [e13]; exact t13 k) (fun k => by rw [f7]; exact b6 k)) (by decide) (Nat.le_of_ble_eq_true rfl) d_L_law_685 ?_
  refine qv_icmpeqE F d_L_law_688 (tgt := 693) rfl (by rw [f1, f2, e13, f7, f8]) ?_
  exact k _ h
set_option maxRecDepth 100000 in
set_option maxHeartbeats 4000000 in
theorem lk_step (F : fx_ p s m args c b_L_law 4 R_L X) (hs : sx2_ X b N xs s) (hi : i ≤ N) (h : Rl_ σ) (kx : vv_ p l e room_1 s m args below meth c Q X 4 [(3, .int (nI i)), (2, .ref (adr X 28)), (1, .ref (adr X 0)), (0, .ref b)] σ 699 []) (k : i + 5 ≤ N → ∀ τ, Rl_ τ → vv_ p l e room_1 s m args below meth c Q X 4 [(3, .int (nI (i + 5))), (2, .ref (adr X 28)), (1, .ref (adr X 0)), (0, .ref b)] τ 18 []) : vv_ p l e room_1 s m args below meth c Q X 4 [(3, .int (nI i)), (2, .ref (adr X 28)), (1, .ref (adr X 0)), (0, .ref b)] σ 18 [] := by
  refine qv_iload_n F d_L_law_18 0 rfl ?_
  refine qv_aload_n F d_L_law_19 3 rfl ?_
  refine qv_slen F hs d_L_law_20 ?_
  refine qv_iconst F (nI 5) d_L_law_21 ic_5 ?_
  refine qv_isubI F d_L_law_22 ?_
  refine qv_icmpgtI F d_L_law_23 (tgt := 699) rfl (fun _ => kx) (fun hb => ?_)
  have h5 := lk_more hs.2.2.2 hi hb
  have kk : ∀ τ, Rl_ τ → vv_ p l e room_1 s m args below meth c Q X 4 [(3, .int (nI i)), (2, .ref (adr X 28)), (1, .ref (adr X 0)), (0, .ref b)] τ 693 [] := by
    intro τ hτ
    refine qv_iinc (L' := [(3, _), (2, _), (1, _), (0, _)]) F (nI (i + 5)) d_L_law_693 0 rfl (by rw [show Int32.ofInt 5 = nI 5 by decide, nI_add]) (by decide) rfl ?_
    refine qv_goto F d_L_law_696 rfl ?_
    exact k h5 τ hτ
  refine qv_aload_n F d_L_law_26 3 rfl ?_
  refine qv_iload_n F d_L_law_27 0 rfl ?_
  refine qv_sld F hs (by omega) d_L_law_28 ?_
  refine qv_bipush F (nI 31) d_L_law_29 bic_31 ?_
  refine qv_iandI F d_L_law_31 ?_
  obtain ⟨a, ha, he⟩ := and31 (xs i)
  refine qv_stk (congrArg (fun z => [Value.int z]) he) ?_
  rcases (by omega : a = 0 ∨ a = 1 ∨ a = 2 ∨ a = 3 ∨ a = 4 ∨ a = 5 ∨ a = 6 ∨ a = 7 ∨ a = 8 ∨ a = 9 ∨ a = 10 ∨ a = 11 ∨ a = 12 ∨ a = 13 ∨ a = 14 ∨ a = 15 ∨ a = 16 ∨ 17 ≤ a) with rfl | rfl | rfl | rfl | rfl | rfl | rfl | rfl | rfl | rfl | rfl | rfl | rfl | rfl | rfl | rfl | rfl | h17
  · exact qv_tsw F d_L_law_32 (by decide) (by decide) (by decide) (off := 84) (tgt := 116) rfl rfl (lk_0 F hs h5 h kk)
  · exact qv_tsw F d_L_law_32 (by decide) (by decide) (by decide) (off := 117) (tgt := 149) rfl rfl (lk_1 F hs h5 h kk)
  · exact qv_tsw F d_L_law_32 (by decide) (by decide) (by decide) (off := 150) (tgt := 182) rfl rfl (lk_2 F hs h5 h kk)
  · exact qv_tsw F d_L_law_32 (by decide) (by decide) (by decide) (off := 183) (tgt := 215) rfl rfl (lk_3 F hs h5 h kk)
  · exact qv_tsw F d_L_law_32 (by decide) (by decide) (by decide) (off := 216) (tgt := 248) rfl rfl (lk_4 F hs h5 h kk)
  · exact qv_tsw F d_L_law_32 (by decide) (by decide) (by decide) (off := 259) (tgt := 291) rfl rfl (lk_5 F hs h5 h kk)
  · exact qv_tsw F d_L_law_32 (by decide) (by decide) (by decide) (off := 302) (tgt := 334) rfl rfl (lk_6 F hs h5 h kk)
  · exact qv_tsw F d_L_law_32 (by decide) (by decide) (by decide) (off := 335) (tgt := 367) rfl rfl (lk_7 F hs h5 h kk)
  · exact qv_tsw F d_L_law_32 (by decide) (by decide) (by decide) (off := 404) (tgt := 436) rfl rfl (lk_8 F hs h5 h kk)
  · exact qv_tsw F d_L_law_32 (by decide) (by decide) (by decide) (off := 417) (tgt := 449) rfl rfl (lk_9 F hs h5 h kk)
  · exact qv_tsw F d_L_law_32 (by decide) (by decide) (by decide) (off := 450) (tgt := 482) rfl rfl (lk_10 F hs h5 h kk)
  · exact qv_tsw F d_L_law_32 (by decide) (by decide) (by decide) (off := 483) (tgt := 515) rfl rfl (lk_11 F hs h5 h kk)
  · exact qv_tsw F d_L_law_32 (by decide) (by decide) (by decide) (off := 506) (tgt := 538) rfl rfl (lk_12 F hs h5 h kk)
  · exact qv_tsw F d_L_law_32 (by decide) (by decide) (by decide) (off := 539) (tgt := 571) rfl rfl (lk_13 F hs h5 h kk)
  · exact qv_tsw F d_L_law_32 (by decide) (by decide) (by decide) (off := 592) (tgt := 624) rfl rfl (lk_14 F hs h5 h kk)
  · exact qv_tsw F d_L_law_32 (by decide) (by decide) (by decide) (off := 615) (tgt := 647) rfl rfl (lk_15 F hs h5 h kk)
  · exact qv_tsw F d_L_law_32 (by decide) (by decide) (by decide) (off := 638) (tgt := 670) rfl rfl (lk_16 F hs h5 h kk)
  · exact qv_tswO F d_L_law_32 (by omega) (by omega) (tgt := 693) rfl (kk σ h)
theorem lk_loop (F : fx_ p s m args c b_L_law 4 R_L X) (hs : sx2_ X b N xs s) (kx : ∀ (i : Nat) (σ : sg), vv_ p l e room_1 s m args below meth c Q X 4 [(3, .int (nI i)), (2, .ref (adr X 28)), (1, .ref (adr X 0)), (0, .ref b)] σ 699 []) : ∀ (d i : Nat) (σ : sg), i ≤ N → N - i ≤ d → Rl_ σ → vv_ p l e room_1 s m args below meth c Q X 4 [(3, .int (nI i)), (2, .ref (adr X 28)), (1, .ref (adr X 0)), (0, .ref b)] σ 18 []
  | 0, i, σ, hi, hd, h => lk_step F hs hi h (kx i σ) (fun h5 => by omega)
  | d + 1, i, σ, hi, hd, h => lk_step F hs hi h (kx i σ) (fun h5 τ hτ => lk_loop F hs kx d (i + 5) τ h5 (by omega) hτ)
end LK

