/-! the law's loop: a case for each method -/
def lw_L (wX wM : ih_Wd) (b i : Nat) : List (Nat × Value) := [(0, .ref b), (1, .ref (wX.2.2 0)), (2, .ref (wM.2.2 0)), (3, .int (nI i))]
theorem nI_sub7 {L : Nat} (h : L ≤ 3584) : (nI L - nI 7).toInt = (L : Int) - 7 := by
  rw [Int32.toInt_sub, nI_toInt (by omega), nI_toInt (by omega)]
  simp only [Int.bmod]
  split <;> omega
section IhLawCase
variable {x : ih_Cx} {wX wM : ih_Wd} {A : Nat → Prop} {Q : State → Prop} {rr : Option FieldType} {SX SM : ih_Sg} {b L i : Nat} {xs : Nat → Int32} {T : ih_TT}
theorem lc_sheet (C : ih_Ok x wX A cL_law 4 RL wsL_law room_1 rr) (e1 : wM.1 = wX.1) (e2 : wM.2.1 = wX.2.1) (hX : va_X b L xs x.2.2.2.2.1 x.2.2.2.2.1.heap) (hbl : b < x.2.2.2.2.1.heap.size) (hbA : ¬ A b) (hL : L ≤ 3584) (hi : i + 7 ≤ L) (hI : ih_Inv T) (hRX : ih_RX SX T) (hRM : ih_RM SM T) (k : ∀ (SX' SM' : ih_Sg) (T' : ih_TT), ih_Inv T' → ih_RX SX' T' → ih_RM SM' T' → ih_Mg x (ih_P2 wX wM A SX' SM') A Q 4 76 154227 1122 (lw_L wX wM b i) []) : ih_Mg x (ih_P2 wX wM A SX SM) A Q 4 76 154227 152 (lw_L wX wM b i) [] := by
  refine g_aload_n C 1 dL_law_152 rfl ?_
  refine g_aload_n C 0 dL_law_153 rfl ?_
  refine g_iload_n C 3 dL_law_154 rfl ?_
  refine g_iconst C (v := nI 1) dL_law_155 (by decide +kernel) ?_
  refine g_iadd C dL_law_156 ?_
  refine g_scr C hX hbl hbA (i := i + 1) (by omega) (by omega) dL_law_157 ?_
  refine g_aload_n C 0 dL_law_158 rfl ?_
  refine g_iload_n C 3 dL_law_159 rfl ?_
  refine g_iconst C (v := nI 2) dL_law_160 (by decide +kernel) ?_
  refine g_iadd C dL_law_161 ?_
  refine g_scr C hX hbl hbA (i := i + 2) (by omega) (by omega) dL_law_162 ?_
  refine g_aload_n C 0 dL_law_163 rfl ?_
  refine g_iload_n C 3 dL_law_164 rfl ?_
  refine g_iconst C (v := nI 3) dL_law_165 (by decide +kernel) ?_
  refine g_iadd C dL_law_166 ?_
  refine g_scr C hX hbl hbA (i := i + 3) (by omega) (by omega) dL_law_167 ?_
  refine g_callX 3 (As := [.int (xs (i + 1)), .int (xs (i + 2)), .int (xs (i + 3))]) C (c_X7_sheet _ wX SX T hRX hI _ _ _) gL_law_X7_sheet rfl (by decide +kernel) (by decide +kernel) (by decide +kernel) rfl rfl (Nat.le_of_ble_eq_true rfl) dL_law_168 (fun r7 SX1 hp7 => ?_)
  obtain ⟨hr7, hX7⟩ := hp7
  refine g_aload_n C 2 dL_law_171 rfl ?_
  refine g_aload_n C 0 dL_law_172 rfl ?_
  refine g_iload_n C 3 dL_law_173 rfl ?_
  refine g_iconst C (v := nI 1) dL_law_174 (by decide +kernel) ?_
  refine g_iadd C dL_law_175 ?_
  refine g_scr C hX hbl hbA (i := i + 1) (by omega) (by omega) dL_law_176 ?_
  refine g_aload_n C 0 dL_law_177 rfl ?_
  refine g_iload_n C 3 dL_law_178 rfl ?_
  refine g_iconst C (v := nI 2) dL_law_179 (by decide +kernel) ?_
  refine g_iadd C dL_law_180 ?_
  refine g_scr C hX hbl hbA (i := i + 2) (by omega) (by omega) dL_law_181 ?_
  refine g_aload_n C 0 dL_law_182 rfl ?_
  refine g_iload_n C 3 dL_law_183 rfl ?_
  refine g_iconst C (v := nI 3) dL_law_184 (by decide +kernel) ?_
  refine g_iadd C dL_law_185 ?_
  refine g_scr C hX hbl hbA (i := i + 3) (by omega) (by omega) dL_law_186 ?_
  refine g_callM 3 (As := [.int (xs (i + 1)), .int (xs (i + 2)), .int (xs (i + 3))]) C e1 e2 (c_X8_sheet _ wM SM T hRM hI _ _ _) gL_law_X8_sheet rfl (by decide +kernel) (by decide +kernel) (by decide +kernel) rfl rfl (Nat.le_of_ble_eq_true rfl) dL_law_187 (fun r8 SM1 hp8 => ?_)
  obtain ⟨hr8, hM8⟩ := hp8
  refine g_icmp_eq C 1122 dL_law_190 (by decide) (hr7.trans hr8.symm) ?_
  exact k SX1 SM1 _ (iv_sheet hI _ _ _) hX7 hM8
theorem lc_set (C : ih_Ok x wX A cL_law 4 RL wsL_law room_1 rr) (e1 : wM.1 = wX.1) (e2 : wM.2.1 = wX.2.1) (hX : va_X b L xs x.2.2.2.2.1 x.2.2.2.2.1.heap) (hbl : b < x.2.2.2.2.1.heap.size) (hbA : ¬ A b) (hL : L ≤ 3584) (hi : i + 7 ≤ L) (hI : ih_Inv T) (hRX : ih_RX SX T) (hRM : ih_RM SM T) (k : ∀ (SX' SM' : ih_Sg) (T' : ih_TT), ih_Inv T' → ih_RX SX' T' → ih_RM SM' T' → ih_Mg x (ih_P2 wX wM A SX' SM') A Q 4 76 154227 1122 (lw_L wX wM b i) []) : ih_Mg x (ih_P2 wX wM A SX SM) A Q 4 76 154227 195 (lw_L wX wM b i) [] := by
  refine g_aload_n C 1 dL_law_195 rfl ?_
  refine g_aload_n C 0 dL_law_196 rfl ?_
  refine g_iload_n C 3 dL_law_197 rfl ?_
  refine g_iconst C (v := nI 1) dL_law_198 (by decide +kernel) ?_
  refine g_iadd C dL_law_199 ?_
  refine g_scr C hX hbl hbA (i := i + 1) (by omega) (by omega) dL_law_200 ?_
  refine g_aload_n C 0 dL_law_201 rfl ?_
  refine g_iload_n C 3 dL_law_202 rfl ?_
  refine g_iconst C (v := nI 2) dL_law_203 (by decide +kernel) ?_
  refine g_iadd C dL_law_204 ?_
  refine g_scr C hX hbl hbA (i := i + 2) (by omega) (by omega) dL_law_205 ?_
  refine g_aload_n C 0 dL_law_206 rfl ?_
  refine g_iload_n C 3 dL_law_207 rfl ?_
  refine g_iconst C (v := nI 3) dL_law_208 (by decide +kernel) ?_
  refine g_iadd C dL_law_209 ?_
  refine g_scr C hX hbl hbA (i := i + 3) (by omega) (by omega) dL_law_210 ?_
  refine g_callX 3 (As := [.int (xs (i + 1)), .int (xs (i + 2)), .int (xs (i + 3))]) C (c_X7_set _ wX SX T hRX hI _ _ _) gL_law_X7_set rfl (by decide +kernel) (by decide +kernel) (by decide +kernel) rfl rfl (Nat.le_of_ble_eq_true rfl) dL_law_211 (fun r7 SX1 hp7 => ?_)
  obtain ⟨hr7, hX7⟩ := hp7
  refine g_aload_n C 2 dL_law_214 rfl ?_
  refine g_aload_n C 0 dL_law_215 rfl ?_
  refine g_iload_n C 3 dL_law_216 rfl ?_
  refine g_iconst C (v := nI 1) dL_law_217 (by decide +kernel) ?_
  refine g_iadd C dL_law_218 ?_
  refine g_scr C hX hbl hbA (i := i + 1) (by omega) (by omega) dL_law_219 ?_
  refine g_aload_n C 0 dL_law_220 rfl ?_
  refine g_iload_n C 3 dL_law_221 rfl ?_
  refine g_iconst C (v := nI 2) dL_law_222 (by decide +kernel) ?_
  refine g_iadd C dL_law_223 ?_
  refine g_scr C hX hbl hbA (i := i + 2) (by omega) (by omega) dL_law_224 ?_
  refine g_aload_n C 0 dL_law_225 rfl ?_
  refine g_iload_n C 3 dL_law_226 rfl ?_
  refine g_iconst C (v := nI 3) dL_law_227 (by decide +kernel) ?_
  refine g_iadd C dL_law_228 ?_
  refine g_scr C hX hbl hbA (i := i + 3) (by omega) (by omega) dL_law_229 ?_
  refine g_callM 3 (As := [.int (xs (i + 1)), .int (xs (i + 2)), .int (xs (i + 3))]) C e1 e2 (c_X8_set _ wM SM T hRM hI _ _ _) gL_law_X8_set rfl (by decide +kernel) (by decide +kernel) (by decide +kernel) rfl rfl (Nat.le_of_ble_eq_true rfl) dL_law_230 (fun r8 SM1 hp8 => ?_)
  obtain ⟨hr8, hM8⟩ := hp8
  refine g_icmp_eq C 1122 dL_law_233 (by decide) (hr7.trans hr8.symm) ?_
  exact k SX1 SM1 _ (iv_set hI _ _ _) hX7 hM8
theorem lc_copy (C : ih_Ok x wX A cL_law 4 RL wsL_law room_1 rr) (e1 : wM.1 = wX.1) (e2 : wM.2.1 = wX.2.1) (hX : va_X b L xs x.2.2.2.2.1 x.2.2.2.2.1.heap) (hbl : b < x.2.2.2.2.1.heap.size) (hbA : ¬ A b) (hL : L ≤ 3584) (hi : i + 7 ≤ L) (hI : ih_Inv T) (hRX : ih_RX SX T) (hRM : ih_RM SM T) (k : ∀ (SX' SM' : ih_Sg) (T' : ih_TT), ih_Inv T' → ih_RX SX' T' → ih_RM SM' T' → ih_Mg x (ih_P2 wX wM A SX' SM') A Q 4 76 154227 1122 (lw_L wX wM b i) []) : ih_Mg x (ih_P2 wX wM A SX SM) A Q 4 76 154227 238 (lw_L wX wM b i) [] := by
  refine g_aload_n C 1 dL_law_238 rfl ?_
  refine g_aload_n C 0 dL_law_239 rfl ?_
  refine g_iload_n C 3 dL_law_240 rfl ?_
  refine g_iconst C (v := nI 1) dL_law_241 (by decide +kernel) ?_
  refine g_iadd C dL_law_242 ?_
  refine g_scr C hX hbl hbA (i := i + 1) (by omega) (by omega) dL_law_243 ?_
  refine g_aload_n C 0 dL_law_244 rfl ?_
  refine g_iload_n C 3 dL_law_245 rfl ?_
  refine g_iconst C (v := nI 2) dL_law_246 (by decide +kernel) ?_
  refine g_iadd C dL_law_247 ?_
  refine g_scr C hX hbl hbA (i := i + 2) (by omega) (by omega) dL_law_248 ?_
  refine g_aload_n C 0 dL_law_249 rfl ?_
  refine g_iload_n C 3 dL_law_250 rfl ?_
  refine g_iconst C (v := nI 3) dL_law_251 (by decide +kernel) ?_
  refine g_iadd C dL_law_252 ?_
  refine g_scr C hX hbl hbA (i := i + 3) (by omega) (by omega) dL_law_253 ?_
  refine g_aload_n C 0 dL_law_254 rfl ?_
  refine g_iload_n C 3 dL_law_255 rfl ?_
  refine g_iconst C (v := nI 4) dL_law_256 (by decide +kernel) ?_
  refine g_iadd C dL_law_257 ?_
  refine g_scr C hX hbl hbA (i := i + 4) (by omega) (by omega) dL_law_258 ?_
  refine g_aload_n C 0 dL_law_259 rfl ?_
  refine g_iload_n C 3 dL_law_260 rfl ?_
  refine g_iconst C (v := nI 5) dL_law_261 (by decide +kernel) ?_
  refine g_iadd C dL_law_262 ?_
  refine g_scr C hX hbl hbA (i := i + 5) (by omega) (by omega) dL_law_263 ?_
  refine g_callX 5 (As := [.int (xs (i + 1)), .int (xs (i + 2)), .int (xs (i + 3)), .int (xs (i + 4)), .int (xs (i + 5))]) C (c_X7_copy _ wX SX T hRX hI _ _ _ _ _) gL_law_X7_copy rfl (by decide +kernel) (by decide +kernel) (by decide +kernel) rfl rfl (Nat.le_of_ble_eq_true rfl) dL_law_264 (fun r7 SX1 hp7 => ?_)
  obtain ⟨hr7, hX7⟩ := hp7
  refine g_aload_n C 2 dL_law_267 rfl ?_
  refine g_aload_n C 0 dL_law_268 rfl ?_
  refine g_iload_n C 3 dL_law_269 rfl ?_
  refine g_iconst C (v := nI 1) dL_law_270 (by decide +kernel) ?_
  refine g_iadd C dL_law_271 ?_
  refine g_scr C hX hbl hbA (i := i + 1) (by omega) (by omega) dL_law_272 ?_
  refine g_aload_n C 0 dL_law_273 rfl ?_
  refine g_iload_n C 3 dL_law_274 rfl ?_
  refine g_iconst C (v := nI 2) dL_law_275 (by decide +kernel) ?_
  refine g_iadd C dL_law_276 ?_
  refine g_scr C hX hbl hbA (i := i + 2) (by omega) (by omega) dL_law_277 ?_
  refine g_aload_n C 0 dL_law_278 rfl ?_
  refine g_iload_n C 3 dL_law_279 rfl ?_
  refine g_iconst C (v := nI 3) dL_law_280 (by decide +kernel) ?_
  refine g_iadd C dL_law_281 ?_
  refine g_scr C hX hbl hbA (i := i + 3) (by omega) (by omega) dL_law_282 ?_
  refine g_aload_n C 0 dL_law_283 rfl ?_
  refine g_iload_n C 3 dL_law_284 rfl ?_
  refine g_iconst C (v := nI 4) dL_law_285 (by decide +kernel) ?_
  refine g_iadd C dL_law_286 ?_
  refine g_scr C hX hbl hbA (i := i + 4) (by omega) (by omega) dL_law_287 ?_
  refine g_aload_n C 0 dL_law_288 rfl ?_
  refine g_iload_n C 3 dL_law_289 rfl ?_
  refine g_iconst C (v := nI 5) dL_law_290 (by decide +kernel) ?_
  refine g_iadd C dL_law_291 ?_
  refine g_scr C hX hbl hbA (i := i + 5) (by omega) (by omega) dL_law_292 ?_
  refine g_callM 5 (As := [.int (xs (i + 1)), .int (xs (i + 2)), .int (xs (i + 3)), .int (xs (i + 4)), .int (xs (i + 5))]) C e1 e2 (c_X8_copy _ wM SM T hRM hI _ _ _ _ _) gL_law_X8_copy rfl (by decide +kernel) (by decide +kernel) (by decide +kernel) rfl rfl (Nat.le_of_ble_eq_true rfl) dL_law_293 (fun r8 SM1 hp8 => ?_)
  obtain ⟨hr8, hM8⟩ := hp8
  refine g_icmp_eq C 1122 dL_law_296 (by decide) (hr7.trans hr8.symm) ?_
  exact k SX1 SM1 _ (iv_copy hI _ _ _ _ _) hX7 hM8
theorem lc_drop (C : ih_Ok x wX A cL_law 4 RL wsL_law room_1 rr) (e1 : wM.1 = wX.1) (e2 : wM.2.1 = wX.2.1) (hX : va_X b L xs x.2.2.2.2.1 x.2.2.2.2.1.heap) (hbl : b < x.2.2.2.2.1.heap.size) (hbA : ¬ A b) (hL : L ≤ 3584) (hi : i + 7 ≤ L) (hI : ih_Inv T) (hRX : ih_RX SX T) (hRM : ih_RM SM T) (k : ∀ (SX' SM' : ih_Sg) (T' : ih_TT), ih_Inv T' → ih_RX SX' T' → ih_RM SM' T' → ih_Mg x (ih_P2 wX wM A SX' SM') A Q 4 76 154227 1122 (lw_L wX wM b i) []) : ih_Mg x (ih_P2 wX wM A SX SM) A Q 4 76 154227 301 (lw_L wX wM b i) [] := by
  refine g_aload_n C 1 dL_law_301 rfl ?_
  refine g_aload_n C 0 dL_law_302 rfl ?_
  refine g_iload_n C 3 dL_law_303 rfl ?_
  refine g_iconst C (v := nI 1) dL_law_304 (by decide +kernel) ?_
  refine g_iadd C dL_law_305 ?_
  refine g_scr C hX hbl hbA (i := i + 1) (by omega) (by omega) dL_law_306 ?_
  refine g_callX 1 (As := [.int (xs (i + 1))]) C (c_X7_drop _ wX SX T hRX hI _) gL_law_X7_drop rfl (by decide +kernel) (by decide +kernel) (by decide +kernel) rfl rfl (Nat.le_of_ble_eq_true rfl) dL_law_307 (fun r7 SX1 hp7 => ?_)
  obtain ⟨hr7, hX7⟩ := hp7
  refine g_aload_n C 2 dL_law_310 rfl ?_
  refine g_aload_n C 0 dL_law_311 rfl ?_
  refine g_iload_n C 3 dL_law_312 rfl ?_
  refine g_iconst C (v := nI 1) dL_law_313 (by decide +kernel) ?_
  refine g_iadd C dL_law_314 ?_
  refine g_scr C hX hbl hbA (i := i + 1) (by omega) (by omega) dL_law_315 ?_
  refine g_callM 1 (As := [.int (xs (i + 1))]) C e1 e2 (c_X8_drop _ wM SM T hRM hI _) gL_law_X8_drop rfl (by decide +kernel) (by decide +kernel) (by decide +kernel) rfl rfl (Nat.le_of_ble_eq_true rfl) dL_law_316 (fun r8 SM1 hp8 => ?_)
  obtain ⟨hr8, hM8⟩ := hp8
  refine g_icmp_eq C 1122 dL_law_319 (by decide) (hr7.trans hr8.symm) ?_
  exact k SX1 SM1 _ (iv_drop hI _) hX7 hM8
theorem lc_behind (C : ih_Ok x wX A cL_law 4 RL wsL_law room_1 rr) (e1 : wM.1 = wX.1) (e2 : wM.2.1 = wX.2.1) (hX : va_X b L xs x.2.2.2.2.1 x.2.2.2.2.1.heap) (hbl : b < x.2.2.2.2.1.heap.size) (hbA : ¬ A b) (hL : L ≤ 3584) (hi : i + 7 ≤ L) (hI : ih_Inv T) (hRX : ih_RX SX T) (hRM : ih_RM SM T) (k : ∀ (SX' SM' : ih_Sg) (T' : ih_TT), ih_Inv T' → ih_RX SX' T' → ih_RM SM' T' → ih_Mg x (ih_P2 wX wM A SX' SM') A Q 4 76 154227 1122 (lw_L wX wM b i) []) : ih_Mg x (ih_P2 wX wM A SX SM) A Q 4 76 154227 324 (lw_L wX wM b i) [] := by
  refine g_aload_n C 1 dL_law_324 rfl ?_
  refine g_aload_n C 0 dL_law_325 rfl ?_
  refine g_iload_n C 3 dL_law_326 rfl ?_
  refine g_iconst C (v := nI 1) dL_law_327 (by decide +kernel) ?_
  refine g_iadd C dL_law_328 ?_
  refine g_scr C hX hbl hbA (i := i + 1) (by omega) (by omega) dL_law_329 ?_
  refine g_aload_n C 0 dL_law_330 rfl ?_
  refine g_iload_n C 3 dL_law_331 rfl ?_
  refine g_iconst C (v := nI 2) dL_law_332 (by decide +kernel) ?_
  refine g_iadd C dL_law_333 ?_
  refine g_scr C hX hbl hbA (i := i + 2) (by omega) (by omega) dL_law_334 ?_
  refine g_aload_n C 0 dL_law_335 rfl ?_
  refine g_iload_n C 3 dL_law_336 rfl ?_
  refine g_iconst C (v := nI 3) dL_law_337 (by decide +kernel) ?_
  refine g_iadd C dL_law_338 ?_
  refine g_scr C hX hbl hbA (i := i + 3) (by omega) (by omega) dL_law_339 ?_
  refine g_callX 3 (As := [.int (xs (i + 1)), .int (xs (i + 2)), .int (xs (i + 3))]) C (c_X7_behind _ wX SX T hRX hI _ _ _) gL_law_X7_behind rfl (by decide +kernel) (by decide +kernel) (by decide +kernel) rfl rfl (Nat.le_of_ble_eq_true rfl) dL_law_340 (fun r7 SX1 hp7 => ?_)
  obtain ⟨hr7, hX7⟩ := hp7
  refine g_aload_n C 2 dL_law_343 rfl ?_
  refine g_aload_n C 0 dL_law_344 rfl ?_
  refine g_iload_n C 3 dL_law_345 rfl ?_
  refine g_iconst C (v := nI 1) dL_law_346 (by decide +kernel) ?_
  refine g_iadd C dL_law_347 ?_
  refine g_scr C hX hbl hbA (i := i + 1) (by omega) (by omega) dL_law_348 ?_
  refine g_aload_n C 0 dL_law_349 rfl ?_
  refine g_iload_n C 3 dL_law_350 rfl ?_
  refine g_iconst C (v := nI 2) dL_law_351 (by decide +kernel) ?_
  refine g_iadd C dL_law_352 ?_
  refine g_scr C hX hbl hbA (i := i + 2) (by omega) (by omega) dL_law_353 ?_
  refine g_aload_n C 0 dL_law_354 rfl ?_
  refine g_iload_n C 3 dL_law_355 rfl ?_
  refine g_iconst C (v := nI 3) dL_law_356 (by decide +kernel) ?_
  refine g_iadd C dL_law_357 ?_
  refine g_scr C hX hbl hbA (i := i + 3) (by omega) (by omega) dL_law_358 ?_
  refine g_callM 3 (As := [.int (xs (i + 1)), .int (xs (i + 2)), .int (xs (i + 3))]) C e1 e2 (c_X8_behind _ wM SM T hRM hI _ _ _) gL_law_X8_behind rfl (by decide +kernel) (by decide +kernel) (by decide +kernel) rfl rfl (Nat.le_of_ble_eq_true rfl) dL_law_359 (fun r8 SM1 hp8 => ?_)
  obtain ⟨hr8, hM8⟩ := hp8
  refine g_icmp_eq C 1122 dL_law_362 (by decide) (hr7.trans hr8.symm) ?_
  exact k SX1 SM1 T hI hX7 hM8
theorem lc_striker (C : ih_Ok x wX A cL_law 4 RL wsL_law room_1 rr) (e1 : wM.1 = wX.1) (e2 : wM.2.1 = wX.2.1) (hX : va_X b L xs x.2.2.2.2.1 x.2.2.2.2.1.heap) (hbl : b < x.2.2.2.2.1.heap.size) (hbA : ¬ A b) (hL : L ≤ 3584) (hi : i + 7 ≤ L) (hI : ih_Inv T) (hRX : ih_RX SX T) (hRM : ih_RM SM T) (k : ∀ (SX' SM' : ih_Sg) (T' : ih_TT), ih_Inv T' → ih_RX SX' T' → ih_RM SM' T' → ih_Mg x (ih_P2 wX wM A SX' SM') A Q 4 76 154227 1122 (lw_L wX wM b i) []) : ih_Mg x (ih_P2 wX wM A SX SM) A Q 4 76 154227 367 (lw_L wX wM b i) [] := by
  refine g_aload_n C 1 dL_law_367 rfl ?_
  refine g_aload_n C 0 dL_law_368 rfl ?_
  refine g_iload_n C 3 dL_law_369 rfl ?_
  refine g_iconst C (v := nI 1) dL_law_370 (by decide +kernel) ?_
  refine g_iadd C dL_law_371 ?_
  refine g_scr C hX hbl hbA (i := i + 1) (by omega) (by omega) dL_law_372 ?_
  refine g_aload_n C 0 dL_law_373 rfl ?_
  refine g_iload_n C 3 dL_law_374 rfl ?_
  refine g_iconst C (v := nI 2) dL_law_375 (by decide +kernel) ?_
  refine g_iadd C dL_law_376 ?_
  refine g_scr C hX hbl hbA (i := i + 2) (by omega) (by omega) dL_law_377 ?_
  refine g_aload_n C 0 dL_law_378 rfl ?_
  refine g_iload_n C 3 dL_law_379 rfl ?_
  refine g_iconst C (v := nI 3) dL_law_380 (by decide +kernel) ?_
  refine g_iadd C dL_law_381 ?_
  refine g_scr C hX hbl hbA (i := i + 3) (by omega) (by omega) dL_law_382 ?_
  refine g_aload_n C 0 dL_law_383 rfl ?_
  refine g_iload_n C 3 dL_law_384 rfl ?_
  refine g_iconst C (v := nI 4) dL_law_385 (by decide +kernel) ?_
  refine g_iadd C dL_law_386 ?_
  refine g_scr C hX hbl hbA (i := i + 4) (by omega) (by omega) dL_law_387 ?_
  refine g_aload_n C 0 dL_law_388 rfl ?_
  refine g_iload_n C 3 dL_law_389 rfl ?_
  refine g_iconst C (v := nI 5) dL_law_390 (by decide +kernel) ?_
  refine g_iadd C dL_law_391 ?_
  refine g_scr C hX hbl hbA (i := i + 5) (by omega) (by omega) dL_law_392 ?_
  refine g_aload_n C 0 dL_law_393 rfl ?_
  refine g_iload_n C 3 dL_law_394 rfl ?_
  refine g_bipush C (v := nI 6) dL_law_395 (by decide +kernel) ?_
  refine g_iadd C dL_law_397 ?_
  refine g_scr C hX hbl hbA (i := i + 6) (by omega) (by omega) dL_law_398 ?_
  refine g_callX 6 (As := [.int (xs (i + 1)), .int (xs (i + 2)), .int (xs (i + 3)), .int (xs (i + 4)), .int (xs (i + 5)), .int (xs (i + 6))]) C (c_X7_striker _ wX SX T hRX hI _ _ _ _ _ _) gL_law_X7_striker rfl (by decide +kernel) (by decide +kernel) (by decide +kernel) rfl rfl (Nat.le_of_ble_eq_true rfl) dL_law_399 (fun r7 SX1 hp7 => ?_)
  obtain ⟨hr7, hX7⟩ := hp7
  refine g_aload_n C 2 dL_law_402 rfl ?_
  refine g_aload_n C 0 dL_law_403 rfl ?_
  refine g_iload_n C 3 dL_law_404 rfl ?_
  refine g_iconst C (v := nI 1) dL_law_405 (by decide +kernel) ?_
  refine g_iadd C dL_law_406 ?_
  refine g_scr C hX hbl hbA (i := i + 1) (by omega) (by omega) dL_law_407 ?_
  refine g_aload_n C 0 dL_law_408 rfl ?_
  refine g_iload_n C 3 dL_law_409 rfl ?_
  refine g_iconst C (v := nI 2) dL_law_410 (by decide +kernel) ?_
  refine g_iadd C dL_law_411 ?_
  refine g_scr C hX hbl hbA (i := i + 2) (by omega) (by omega) dL_law_412 ?_
  refine g_aload_n C 0 dL_law_413 rfl ?_
  refine g_iload_n C 3 dL_law_414 rfl ?_
  refine g_iconst C (v := nI 3) dL_law_415 (by decide +kernel) ?_
  refine g_iadd C dL_law_416 ?_
  refine g_scr C hX hbl hbA (i := i + 3) (by omega) (by omega) dL_law_417 ?_
  refine g_aload_n C 0 dL_law_418 rfl ?_
  refine g_iload_n C 3 dL_law_419 rfl ?_
  refine g_iconst C (v := nI 4) dL_law_420 (by decide +kernel) ?_
  refine g_iadd C dL_law_421 ?_
  refine g_scr C hX hbl hbA (i := i + 4) (by omega) (by omega) dL_law_422 ?_
  refine g_aload_n C 0 dL_law_423 rfl ?_
  refine g_iload_n C 3 dL_law_424 rfl ?_
  refine g_iconst C (v := nI 5) dL_law_425 (by decide +kernel) ?_
  refine g_iadd C dL_law_426 ?_
  refine g_scr C hX hbl hbA (i := i + 5) (by omega) (by omega) dL_law_427 ?_
  refine g_aload_n C 0 dL_law_428 rfl ?_
  refine g_iload_n C 3 dL_law_429 rfl ?_
  refine g_bipush C (v := nI 6) dL_law_430 (by decide +kernel) ?_
  refine g_iadd C dL_law_432 ?_
  refine g_scr C hX hbl hbA (i := i + 6) (by omega) (by omega) dL_law_433 ?_
  refine g_callM 6 (As := [.int (xs (i + 1)), .int (xs (i + 2)), .int (xs (i + 3)), .int (xs (i + 4)), .int (xs (i + 5)), .int (xs (i + 6))]) C e1 e2 (c_X8_striker _ wM SM T hRM hI _ _ _ _ _ _) gL_law_X8_striker rfl (by decide +kernel) (by decide +kernel) (by decide +kernel) rfl rfl (Nat.le_of_ble_eq_true rfl) dL_law_434 (fun r8 SM1 hp8 => ?_)
  obtain ⟨hr8, hM8⟩ := hp8
  refine g_icmp_eq C 1122 dL_law_437 (by decide) (hr7.trans hr8.symm) ?_
  exact k SX1 SM1 _ (iv_striker hI _ _ _ _ _ _) hX7 hM8
theorem lc_train (C : ih_Ok x wX A cL_law 4 RL wsL_law room_1 rr) (e1 : wM.1 = wX.1) (e2 : wM.2.1 = wX.2.1) (hX : va_X b L xs x.2.2.2.2.1 x.2.2.2.2.1.heap) (hbl : b < x.2.2.2.2.1.heap.size) (hbA : ¬ A b) (hL : L ≤ 3584) (hi : i + 7 ≤ L) (hI : ih_Inv T) (hRX : ih_RX SX T) (hRM : ih_RM SM T) (k : ∀ (SX' SM' : ih_Sg) (T' : ih_TT), ih_Inv T' → ih_RX SX' T' → ih_RM SM' T' → ih_Mg x (ih_P2 wX wM A SX' SM') A Q 4 76 154227 1122 (lw_L wX wM b i) []) : ih_Mg x (ih_P2 wX wM A SX SM) A Q 4 76 154227 442 (lw_L wX wM b i) [] := by
  refine g_aload_n C 1 dL_law_442 rfl ?_
  refine g_aload_n C 0 dL_law_443 rfl ?_
  refine g_iload_n C 3 dL_law_444 rfl ?_
  refine g_iconst C (v := nI 1) dL_law_445 (by decide +kernel) ?_
  refine g_iadd C dL_law_446 ?_
  refine g_scr C hX hbl hbA (i := i + 1) (by omega) (by omega) dL_law_447 ?_
  refine g_aload_n C 0 dL_law_448 rfl ?_
  refine g_iload_n C 3 dL_law_449 rfl ?_
  refine g_iconst C (v := nI 2) dL_law_450 (by decide +kernel) ?_
  refine g_iadd C dL_law_451 ?_
  refine g_scr C hX hbl hbA (i := i + 2) (by omega) (by omega) dL_law_452 ?_
  refine g_aload_n C 0 dL_law_453 rfl ?_
  refine g_iload_n C 3 dL_law_454 rfl ?_
  refine g_iconst C (v := nI 3) dL_law_455 (by decide +kernel) ?_
  refine g_iadd C dL_law_456 ?_
  refine g_scr C hX hbl hbA (i := i + 3) (by omega) (by omega) dL_law_457 ?_
  refine g_callX 3 (As := [.int (xs (i + 1)), .int (xs (i + 2)), .int (xs (i + 3))]) C (c_X7_train _ wX SX T hRX hI _ _ _) gL_law_X7_train rfl (by decide +kernel) (by decide +kernel) (by decide +kernel) rfl rfl (Nat.le_of_ble_eq_true rfl) dL_law_458 (fun r7 SX1 hp7 => ?_)
  obtain ⟨hr7, hX7⟩ := hp7
  refine g_aload_n C 2 dL_law_461 rfl ?_
  refine g_aload_n C 0 dL_law_462 rfl ?_
  refine g_iload_n C 3 dL_law_463 rfl ?_
  refine g_iconst C (v := nI 1) dL_law_464 (by decide +kernel) ?_
  refine g_iadd C dL_law_465 ?_
  refine g_scr C hX hbl hbA (i := i + 1) (by omega) (by omega) dL_law_466 ?_
  refine g_aload_n C 0 dL_law_467 rfl ?_
  refine g_iload_n C 3 dL_law_468 rfl ?_
  refine g_iconst C (v := nI 2) dL_law_469 (by decide +kernel) ?_
  refine g_iadd C dL_law_470 ?_
  refine g_scr C hX hbl hbA (i := i + 2) (by omega) (by omega) dL_law_471 ?_
  refine g_aload_n C 0 dL_law_472 rfl ?_
  refine g_iload_n C 3 dL_law_473 rfl ?_
  refine g_iconst C (v := nI 3) dL_law_474 (by decide +kernel) ?_
  refine g_iadd C dL_law_475 ?_
  refine g_scr C hX hbl hbA (i := i + 3) (by omega) (by omega) dL_law_476 ?_
  refine g_callM 3 (As := [.int (xs (i + 1)), .int (xs (i + 2)), .int (xs (i + 3))]) C e1 e2 (c_X8_train _ wM SM T hRM hI _ _ _) gL_law_X8_train rfl (by decide +kernel) (by decide +kernel) (by decide +kernel) rfl rfl (Nat.le_of_ble_eq_true rfl) dL_law_477 (fun r8 SM1 hp8 => ?_)
  obtain ⟨hr8, hM8⟩ := hp8
  refine g_icmp_eq C 1122 dL_law_480 (by decide) (hr7.trans hr8.symm) ?_
  exact k SX1 SM1 _ (iv_train hI _ _ _) hX7 hM8
theorem lc_chance (C : ih_Ok x wX A cL_law 4 RL wsL_law room_1 rr) (e1 : wM.1 = wX.1) (e2 : wM.2.1 = wX.2.1) (hX : va_X b L xs x.2.2.2.2.1 x.2.2.2.2.1.heap) (hbl : b < x.2.2.2.2.1.heap.size) (hbA : ¬ A b) (hL : L ≤ 3584) (hi : i + 7 ≤ L) (hI : ih_Inv T) (hRX : ih_RX SX T) (hRM : ih_RM SM T) (k : ∀ (SX' SM' : ih_Sg) (T' : ih_TT), ih_Inv T' → ih_RX SX' T' → ih_RM SM' T' → ih_Mg x (ih_P2 wX wM A SX' SM') A Q 4 76 154227 1122 (lw_L wX wM b i) []) : ih_Mg x (ih_P2 wX wM A SX SM) A Q 4 76 154227 485 (lw_L wX wM b i) [] := by
  refine g_aload_n C 1 dL_law_485 rfl ?_
  refine g_aload_n C 0 dL_law_486 rfl ?_
  refine g_iload_n C 3 dL_law_487 rfl ?_
  refine g_iconst C (v := nI 1) dL_law_488 (by decide +kernel) ?_
  refine g_iadd C dL_law_489 ?_
  refine g_scr C hX hbl hbA (i := i + 1) (by omega) (by omega) dL_law_490 ?_
  refine g_aload_n C 0 dL_law_491 rfl ?_
  refine g_iload_n C 3 dL_law_492 rfl ?_
  refine g_iconst C (v := nI 2) dL_law_493 (by decide +kernel) ?_
  refine g_iadd C dL_law_494 ?_
  refine g_scr C hX hbl hbA (i := i + 2) (by omega) (by omega) dL_law_495 ?_
  refine g_callX 2 (As := [.int (xs (i + 1)), .int (xs (i + 2))]) C (c_X7_chance _ wX SX T hRX hI _ _) gL_law_X7_chance rfl (by decide +kernel) (by decide +kernel) (by decide +kernel) rfl rfl (Nat.le_of_ble_eq_true rfl) dL_law_496 (fun r7 SX1 hp7 => ?_)
  obtain ⟨hr7, hX7⟩ := hp7
  refine g_aload_n C 2 dL_law_499 rfl ?_
  refine g_aload_n C 0 dL_law_500 rfl ?_
  refine g_iload_n C 3 dL_law_501 rfl ?_
  refine g_iconst C (v := nI 1) dL_law_502 (by decide +kernel) ?_
  refine g_iadd C dL_law_503 ?_
  refine g_scr C hX hbl hbA (i := i + 1) (by omega) (by omega) dL_law_504 ?_
  refine g_aload_n C 0 dL_law_505 rfl ?_
  refine g_iload_n C 3 dL_law_506 rfl ?_
  refine g_iconst C (v := nI 2) dL_law_507 (by decide +kernel) ?_
  refine g_iadd C dL_law_508 ?_
  refine g_scr C hX hbl hbA (i := i + 2) (by omega) (by omega) dL_law_509 ?_
  refine g_callM 2 (As := [.int (xs (i + 1)), .int (xs (i + 2))]) C e1 e2 (c_X8_chance _ wM SM T hRM hI _ _) gL_law_X8_chance rfl (by decide +kernel) (by decide +kernel) (by decide +kernel) rfl rfl (Nat.le_of_ble_eq_true rfl) dL_law_510 (fun r8 SM1 hp8 => ?_)
  obtain ⟨hr8, hM8⟩ := hp8
  refine g_icmp_eq C 1122 dL_law_513 (by decide) (hr7.trans hr8.symm) ?_
  exact k SX1 SM1 T hI hX7 hM8
theorem lc_order (C : ih_Ok x wX A cL_law 4 RL wsL_law room_1 rr) (e1 : wM.1 = wX.1) (e2 : wM.2.1 = wX.2.1) (hX : va_X b L xs x.2.2.2.2.1 x.2.2.2.2.1.heap) (hbl : b < x.2.2.2.2.1.heap.size) (hbA : ¬ A b) (hL : L ≤ 3584) (hi : i + 7 ≤ L) (hI : ih_Inv T) (hRX : ih_RX SX T) (hRM : ih_RM SM T) (k : ∀ (SX' SM' : ih_Sg) (T' : ih_TT), ih_Inv T' → ih_RX SX' T' → ih_RM SM' T' → ih_Mg x (ih_P2 wX wM A SX' SM') A Q 4 76 154227 1122 (lw_L wX wM b i) []) : ih_Mg x (ih_P2 wX wM A SX SM) A Q 4 76 154227 518 (lw_L wX wM b i) [] := by
  refine g_aload_n C 1 dL_law_518 rfl ?_
  refine g_aload_n C 0 dL_law_519 rfl ?_
  refine g_iload_n C 3 dL_law_520 rfl ?_
  refine g_iconst C (v := nI 1) dL_law_521 (by decide +kernel) ?_
  refine g_iadd C dL_law_522 ?_
  refine g_scr C hX hbl hbA (i := i + 1) (by omega) (by omega) dL_law_523 ?_
  refine g_aload_n C 0 dL_law_524 rfl ?_
  refine g_iload_n C 3 dL_law_525 rfl ?_
  refine g_iconst C (v := nI 2) dL_law_526 (by decide +kernel) ?_
  refine g_iadd C dL_law_527 ?_
  refine g_scr C hX hbl hbA (i := i + 2) (by omega) (by omega) dL_law_528 ?_
  refine g_aload_n C 0 dL_law_529 rfl ?_
  refine g_iload_n C 3 dL_law_530 rfl ?_
  refine g_iconst C (v := nI 3) dL_law_531 (by decide +kernel) ?_
  refine g_iadd C dL_law_532 ?_
  refine g_scr C hX hbl hbA (i := i + 3) (by omega) (by omega) dL_law_533 ?_
  refine g_callX 3 (As := [.int (xs (i + 1)), .int (xs (i + 2)), .int (xs (i + 3))]) C (c_X7_order _ wX SX T hRX hI _ _ _) gL_law_X7_order rfl (by decide +kernel) (by decide +kernel) (by decide +kernel) rfl rfl (Nat.le_of_ble_eq_true rfl) dL_law_534 (fun r7 SX1 hp7 => ?_)
  obtain ⟨hr7, hX7⟩ := hp7
  refine g_aload_n C 2 dL_law_537 rfl ?_
  refine g_aload_n C 0 dL_law_538 rfl ?_
  refine g_iload_n C 3 dL_law_539 rfl ?_
  refine g_iconst C (v := nI 1) dL_law_540 (by decide +kernel) ?_
  refine g_iadd C dL_law_541 ?_
  refine g_scr C hX hbl hbA (i := i + 1) (by omega) (by omega) dL_law_542 ?_
  refine g_aload_n C 0 dL_law_543 rfl ?_
  refine g_iload_n C 3 dL_law_544 rfl ?_
  refine g_iconst C (v := nI 2) dL_law_545 (by decide +kernel) ?_
  refine g_iadd C dL_law_546 ?_
  refine g_scr C hX hbl hbA (i := i + 2) (by omega) (by omega) dL_law_547 ?_
  refine g_aload_n C 0 dL_law_548 rfl ?_
  refine g_iload_n C 3 dL_law_549 rfl ?_
  refine g_iconst C (v := nI 3) dL_law_550 (by decide +kernel) ?_
  refine g_iadd C dL_law_551 ?_
  refine g_scr C hX hbl hbA (i := i + 3) (by omega) (by omega) dL_law_552 ?_
  refine g_callM 3 (As := [.int (xs (i + 1)), .int (xs (i + 2)), .int (xs (i + 3))]) C e1 e2 (c_X8_order _ wM SM T hRM hI _ _ _) gL_law_X8_order rfl (by decide +kernel) (by decide +kernel) (by decide +kernel) rfl rfl (Nat.le_of_ble_eq_true rfl) dL_law_553 (fun r8 SM1 hp8 => ?_)
  obtain ⟨hr8, hM8⟩ := hp8
  refine g_icmp_eq C 1122 dL_law_556 (by decide) (hr7.trans hr8.symm) ?_
  exact k SX1 SM1 _ (iv_order hI _ _ _) hX7 hM8
theorem lc_striking (C : ih_Ok x wX A cL_law 4 RL wsL_law room_1 rr) (e1 : wM.1 = wX.1) (e2 : wM.2.1 = wX.2.1) (hX : va_X b L xs x.2.2.2.2.1 x.2.2.2.2.1.heap) (hbl : b < x.2.2.2.2.1.heap.size) (hbA : ¬ A b) (hL : L ≤ 3584) (hi : i + 7 ≤ L) (hI : ih_Inv T) (hRX : ih_RX SX T) (hRM : ih_RM SM T) (k : ∀ (SX' SM' : ih_Sg) (T' : ih_TT), ih_Inv T' → ih_RX SX' T' → ih_RM SM' T' → ih_Mg x (ih_P2 wX wM A SX' SM') A Q 4 76 154227 1122 (lw_L wX wM b i) []) : ih_Mg x (ih_P2 wX wM A SX SM) A Q 4 76 154227 561 (lw_L wX wM b i) [] := by
  refine g_aload_n C 1 dL_law_561 rfl ?_
  refine g_aload_n C 0 dL_law_562 rfl ?_
  refine g_iload_n C 3 dL_law_563 rfl ?_
  refine g_iconst C (v := nI 1) dL_law_564 (by decide +kernel) ?_
  refine g_iadd C dL_law_565 ?_
  refine g_scr C hX hbl hbA (i := i + 1) (by omega) (by omega) dL_law_566 ?_
  refine g_callX 1 (As := [.int (xs (i + 1))]) C (c_X7_striking _ wX SX T hRX hI _) gL_law_X7_striking rfl (by decide +kernel) (by decide +kernel) (by decide +kernel) rfl rfl (Nat.le_of_ble_eq_true rfl) dL_law_567 (fun r7 SX1 hp7 => ?_)
  obtain ⟨hr7, hX7⟩ := hp7
  refine g_aload_n C 2 dL_law_570 rfl ?_
  refine g_aload_n C 0 dL_law_571 rfl ?_
  refine g_iload_n C 3 dL_law_572 rfl ?_
  refine g_iconst C (v := nI 1) dL_law_573 (by decide +kernel) ?_
  refine g_iadd C dL_law_574 ?_
  refine g_scr C hX hbl hbA (i := i + 1) (by omega) (by omega) dL_law_575 ?_
  refine g_callM 1 (As := [.int (xs (i + 1))]) C e1 e2 (c_X8_striking _ wM SM T hRM hI _) gL_law_X8_striking rfl (by decide +kernel) (by decide +kernel) (by decide +kernel) rfl rfl (Nat.le_of_ble_eq_true rfl) dL_law_576 (fun r8 SM1 hp8 => ?_)
  obtain ⟨hr8, hM8⟩ := hp8
  refine g_icmp_eq C 1122 dL_law_579 (by decide) (hr7.trans hr8.symm) ?_
  exact k SX1 SM1 T hI hX7 hM8
theorem lc_mean (C : ih_Ok x wX A cL_law 4 RL wsL_law room_1 rr) (e1 : wM.1 = wX.1) (e2 : wM.2.1 = wX.2.1) (hX : va_X b L xs x.2.2.2.2.1 x.2.2.2.2.1.heap) (hbl : b < x.2.2.2.2.1.heap.size) (hbA : ¬ A b) (hL : L ≤ 3584) (hi : i + 7 ≤ L) (hI : ih_Inv T) (hRX : ih_RX SX T) (hRM : ih_RM SM T) (k : ∀ (SX' SM' : ih_Sg) (T' : ih_TT), ih_Inv T' → ih_RX SX' T' → ih_RM SM' T' → ih_Mg x (ih_P2 wX wM A SX' SM') A Q 4 76 154227 1122 (lw_L wX wM b i) []) : ih_Mg x (ih_P2 wX wM A SX SM) A Q 4 76 154227 584 (lw_L wX wM b i) [] := by
  refine g_aload_n C 1 dL_law_584 rfl ?_
  refine g_aload_n C 0 dL_law_585 rfl ?_
  refine g_iload_n C 3 dL_law_586 rfl ?_
  refine g_iconst C (v := nI 1) dL_law_587 (by decide +kernel) ?_
  refine g_iadd C dL_law_588 ?_
  refine g_scr C hX hbl hbA (i := i + 1) (by omega) (by omega) dL_law_589 ?_
  refine g_aload_n C 0 dL_law_590 rfl ?_
  refine g_iload_n C 3 dL_law_591 rfl ?_
  refine g_iconst C (v := nI 2) dL_law_592 (by decide +kernel) ?_
  refine g_iadd C dL_law_593 ?_
  refine g_scr C hX hbl hbA (i := i + 2) (by omega) (by omega) dL_law_594 ?_
  refine g_aload_n C 0 dL_law_595 rfl ?_
  refine g_iload_n C 3 dL_law_596 rfl ?_
  refine g_iconst C (v := nI 3) dL_law_597 (by decide +kernel) ?_
  refine g_iadd C dL_law_598 ?_
  refine g_scr C hX hbl hbA (i := i + 3) (by omega) (by omega) dL_law_599 ?_
  refine g_callX 3 (As := [.int (xs (i + 1)), .int (xs (i + 2)), .int (xs (i + 3))]) C (c_X7_mean _ wX SX T hRX hI _ _ _) gL_law_X7_mean rfl (by decide +kernel) (by decide +kernel) (by decide +kernel) rfl rfl (Nat.le_of_ble_eq_true rfl) dL_law_600 (fun r7 SX1 hp7 => ?_)
  obtain ⟨hr7, hX7⟩ := hp7
  refine g_aload_n C 2 dL_law_603 rfl ?_
  refine g_aload_n C 0 dL_law_604 rfl ?_
  refine g_iload_n C 3 dL_law_605 rfl ?_
  refine g_iconst C (v := nI 1) dL_law_606 (by decide +kernel) ?_
  refine g_iadd C dL_law_607 ?_
  refine g_scr C hX hbl hbA (i := i + 1) (by omega) (by omega) dL_law_608 ?_
  refine g_aload_n C 0 dL_law_609 rfl ?_
  refine g_iload_n C 3 dL_law_610 rfl ?_
  refine g_iconst C (v := nI 2) dL_law_611 (by decide +kernel) ?_
  refine g_iadd C dL_law_612 ?_
  refine g_scr C hX hbl hbA (i := i + 2) (by omega) (by omega) dL_law_613 ?_
  refine g_aload_n C 0 dL_law_614 rfl ?_
  refine g_iload_n C 3 dL_law_615 rfl ?_
  refine g_iconst C (v := nI 3) dL_law_616 (by decide +kernel) ?_
  refine g_iadd C dL_law_617 ?_
  refine g_scr C hX hbl hbA (i := i + 3) (by omega) (by omega) dL_law_618 ?_
  refine g_callM 3 (As := [.int (xs (i + 1)), .int (xs (i + 2)), .int (xs (i + 3))]) C e1 e2 (c_X8_mean _ wM SM T hRM hI _ _ _) gL_law_X8_mean rfl (by decide +kernel) (by decide +kernel) (by decide +kernel) rfl rfl (Nat.le_of_ble_eq_true rfl) dL_law_619 (fun r8 SM1 hp8 => ?_)
  obtain ⟨hr8, hM8⟩ := hp8
  refine g_icmp_eq C 1122 dL_law_622 (by decide) (hr7.trans hr8.symm) ?_
  exact k SX1 SM1 T hI hX7 hM8
theorem lc_likely (C : ih_Ok x wX A cL_law 4 RL wsL_law room_1 rr) (e1 : wM.1 = wX.1) (e2 : wM.2.1 = wX.2.1) (hX : va_X b L xs x.2.2.2.2.1 x.2.2.2.2.1.heap) (hbl : b < x.2.2.2.2.1.heap.size) (hbA : ¬ A b) (hL : L ≤ 3584) (hi : i + 7 ≤ L) (hI : ih_Inv T) (hRX : ih_RX SX T) (hRM : ih_RM SM T) (k : ∀ (SX' SM' : ih_Sg) (T' : ih_TT), ih_Inv T' → ih_RX SX' T' → ih_RM SM' T' → ih_Mg x (ih_P2 wX wM A SX' SM') A Q 4 76 154227 1122 (lw_L wX wM b i) []) : ih_Mg x (ih_P2 wX wM A SX SM) A Q 4 76 154227 627 (lw_L wX wM b i) [] := by
  refine g_aload_n C 1 dL_law_627 rfl ?_
  refine g_aload_n C 0 dL_law_628 rfl ?_
  refine g_iload_n C 3 dL_law_629 rfl ?_
  refine g_iconst C (v := nI 1) dL_law_630 (by decide +kernel) ?_
  refine g_iadd C dL_law_631 ?_
  refine g_scr C hX hbl hbA (i := i + 1) (by omega) (by omega) dL_law_632 ?_
  refine g_aload_n C 0 dL_law_633 rfl ?_
  refine g_iload_n C 3 dL_law_634 rfl ?_
  refine g_iconst C (v := nI 2) dL_law_635 (by decide +kernel) ?_
  refine g_iadd C dL_law_636 ?_
  refine g_scr C hX hbl hbA (i := i + 2) (by omega) (by omega) dL_law_637 ?_
  refine g_aload_n C 0 dL_law_638 rfl ?_
  refine g_iload_n C 3 dL_law_639 rfl ?_
  refine g_iconst C (v := nI 3) dL_law_640 (by decide +kernel) ?_
  refine g_iadd C dL_law_641 ?_
  refine g_scr C hX hbl hbA (i := i + 3) (by omega) (by omega) dL_law_642 ?_
  refine g_aload_n C 0 dL_law_643 rfl ?_
  refine g_iload_n C 3 dL_law_644 rfl ?_
  refine g_iconst C (v := nI 4) dL_law_645 (by decide +kernel) ?_
  refine g_iadd C dL_law_646 ?_
  refine g_scr C hX hbl hbA (i := i + 4) (by omega) (by omega) dL_law_647 ?_
  refine g_callX 4 (As := [.int (xs (i + 1)), .int (xs (i + 2)), .int (xs (i + 3)), .int (xs (i + 4))]) C (c_X7_likely _ wX SX T hRX hI _ _ _ _) gL_law_X7_likely rfl (by decide +kernel) (by decide +kernel) (by decide +kernel) rfl rfl (Nat.le_of_ble_eq_true rfl) dL_law_648 (fun r7 SX1 hp7 => ?_)
  obtain ⟨hr7, hX7⟩ := hp7
  refine g_aload_n C 2 dL_law_651 rfl ?_
  refine g_aload_n C 0 dL_law_652 rfl ?_
  refine g_iload_n C 3 dL_law_653 rfl ?_
  refine g_iconst C (v := nI 1) dL_law_654 (by decide +kernel) ?_
  refine g_iadd C dL_law_655 ?_
  refine g_scr C hX hbl hbA (i := i + 1) (by omega) (by omega) dL_law_656 ?_
  refine g_aload_n C 0 dL_law_657 rfl ?_
  refine g_iload_n C 3 dL_law_658 rfl ?_
  refine g_iconst C (v := nI 2) dL_law_659 (by decide +kernel) ?_
  refine g_iadd C dL_law_660 ?_
  refine g_scr C hX hbl hbA (i := i + 2) (by omega) (by omega) dL_law_661 ?_
  refine g_aload_n C 0 dL_law_662 rfl ?_
  refine g_iload_n C 3 dL_law_663 rfl ?_
  refine g_iconst C (v := nI 3) dL_law_664 (by decide +kernel) ?_
  refine g_iadd C dL_law_665 ?_
  refine g_scr C hX hbl hbA (i := i + 3) (by omega) (by omega) dL_law_666 ?_
  refine g_aload_n C 0 dL_law_667 rfl ?_
  refine g_iload_n C 3 dL_law_668 rfl ?_
  refine g_iconst C (v := nI 4) dL_law_669 (by decide +kernel) ?_
  refine g_iadd C dL_law_670 ?_
  refine g_scr C hX hbl hbA (i := i + 4) (by omega) (by omega) dL_law_671 ?_
  refine g_callM 4 (As := [.int (xs (i + 1)), .int (xs (i + 2)), .int (xs (i + 3)), .int (xs (i + 4))]) C e1 e2 (c_X8_likely _ wM SM T hRM hI _ _ _ _) gL_law_X8_likely rfl (by decide +kernel) (by decide +kernel) (by decide +kernel) rfl rfl (Nat.le_of_ble_eq_true rfl) dL_law_672 (fun r8 SM1 hp8 => ?_)
  obtain ⟨hr8, hM8⟩ := hp8
  refine g_icmp_eq C 1122 dL_law_675 (by decide) (hr7.trans hr8.symm) ?_
  exact k SX1 SM1 T hI hX7 hM8
theorem lc_worth (C : ih_Ok x wX A cL_law 4 RL wsL_law room_1 rr) (e1 : wM.1 = wX.1) (e2 : wM.2.1 = wX.2.1) (hX : va_X b L xs x.2.2.2.2.1 x.2.2.2.2.1.heap) (hbl : b < x.2.2.2.2.1.heap.size) (hbA : ¬ A b) (hL : L ≤ 3584) (hi : i + 7 ≤ L) (hI : ih_Inv T) (hRX : ih_RX SX T) (hRM : ih_RM SM T) (k : ∀ (SX' SM' : ih_Sg) (T' : ih_TT), ih_Inv T' → ih_RX SX' T' → ih_RM SM' T' → ih_Mg x (ih_P2 wX wM A SX' SM') A Q 4 76 154227 1122 (lw_L wX wM b i) []) : ih_Mg x (ih_P2 wX wM A SX SM) A Q 4 76 154227 680 (lw_L wX wM b i) [] := by
  refine g_aload_n C 1 dL_law_680 rfl ?_
  refine g_aload_n C 0 dL_law_681 rfl ?_
  refine g_iload_n C 3 dL_law_682 rfl ?_
  refine g_iconst C (v := nI 1) dL_law_683 (by decide +kernel) ?_
  refine g_iadd C dL_law_684 ?_
  refine g_scr C hX hbl hbA (i := i + 1) (by omega) (by omega) dL_law_685 ?_
  refine g_aload_n C 0 dL_law_686 rfl ?_
  refine g_iload_n C 3 dL_law_687 rfl ?_
  refine g_iconst C (v := nI 2) dL_law_688 (by decide +kernel) ?_
  refine g_iadd C dL_law_689 ?_
  refine g_scr C hX hbl hbA (i := i + 2) (by omega) (by omega) dL_law_690 ?_
  refine g_aload_n C 0 dL_law_691 rfl ?_
  refine g_iload_n C 3 dL_law_692 rfl ?_
  refine g_iconst C (v := nI 3) dL_law_693 (by decide +kernel) ?_
  refine g_iadd C dL_law_694 ?_
  refine g_scr C hX hbl hbA (i := i + 3) (by omega) (by omega) dL_law_695 ?_
  refine g_aload_n C 0 dL_law_696 rfl ?_
  refine g_iload_n C 3 dL_law_697 rfl ?_
  refine g_iconst C (v := nI 4) dL_law_698 (by decide +kernel) ?_
  refine g_iadd C dL_law_699 ?_
  refine g_scr C hX hbl hbA (i := i + 4) (by omega) (by omega) dL_law_700 ?_
  refine g_callX 4 (As := [.int (xs (i + 1)), .int (xs (i + 2)), .int (xs (i + 3)), .int (xs (i + 4))]) C (c_X7_worth _ wX SX T hRX hI _ _ _ _) gL_law_X7_worth rfl (by decide +kernel) (by decide +kernel) (by decide +kernel) rfl rfl (Nat.le_of_ble_eq_true rfl) dL_law_701 (fun r7 SX1 hp7 => ?_)
  obtain ⟨hr7, hX7⟩ := hp7
  refine g_aload_n C 2 dL_law_704 rfl ?_
  refine g_aload_n C 0 dL_law_705 rfl ?_
  refine g_iload_n C 3 dL_law_706 rfl ?_
  refine g_iconst C (v := nI 1) dL_law_707 (by decide +kernel) ?_
  refine g_iadd C dL_law_708 ?_
  refine g_scr C hX hbl hbA (i := i + 1) (by omega) (by omega) dL_law_709 ?_
  refine g_aload_n C 0 dL_law_710 rfl ?_
  refine g_iload_n C 3 dL_law_711 rfl ?_
  refine g_iconst C (v := nI 2) dL_law_712 (by decide +kernel) ?_
  refine g_iadd C dL_law_713 ?_
  refine g_scr C hX hbl hbA (i := i + 2) (by omega) (by omega) dL_law_714 ?_
  refine g_aload_n C 0 dL_law_715 rfl ?_
  refine g_iload_n C 3 dL_law_716 rfl ?_
  refine g_iconst C (v := nI 3) dL_law_717 (by decide +kernel) ?_
  refine g_iadd C dL_law_718 ?_
  refine g_scr C hX hbl hbA (i := i + 3) (by omega) (by omega) dL_law_719 ?_
  refine g_aload_n C 0 dL_law_720 rfl ?_
  refine g_iload_n C 3 dL_law_721 rfl ?_
  refine g_iconst C (v := nI 4) dL_law_722 (by decide +kernel) ?_
  refine g_iadd C dL_law_723 ?_
  refine g_scr C hX hbl hbA (i := i + 4) (by omega) (by omega) dL_law_724 ?_
  refine g_callM 4 (As := [.int (xs (i + 1)), .int (xs (i + 2)), .int (xs (i + 3)), .int (xs (i + 4))]) C e1 e2 (c_X8_worth _ wM SM T hRM hI _ _ _ _) gL_law_X8_worth rfl (by decide +kernel) (by decide +kernel) (by decide +kernel) rfl rfl (Nat.le_of_ble_eq_true rfl) dL_law_725 (fun r8 SM1 hp8 => ?_)
  obtain ⟨hr8, hM8⟩ := hp8
  refine g_icmp_eq C 1122 dL_law_728 (by decide) (hr7.trans hr8.symm) ?_
  exact k SX1 SM1 T hI hX7 hM8
theorem lc_rate (C : ih_Ok x wX A cL_law 4 RL wsL_law room_1 rr) (e1 : wM.1 = wX.1) (e2 : wM.2.1 = wX.2.1) (hX : va_X b L xs x.2.2.2.2.1 x.2.2.2.2.1.heap) (hbl : b < x.2.2.2.2.1.heap.size) (hbA : ¬ A b) (hL : L ≤ 3584) (hi : i + 7 ≤ L) (hI : ih_Inv T) (hRX : ih_RX SX T) (hRM : ih_RM SM T) (k : ∀ (SX' SM' : ih_Sg) (T' : ih_TT), ih_Inv T' → ih_RX SX' T' → ih_RM SM' T' → ih_Mg x (ih_P2 wX wM A SX' SM') A Q 4 76 154227 1122 (lw_L wX wM b i) []) : ih_Mg x (ih_P2 wX wM A SX SM) A Q 4 76 154227 733 (lw_L wX wM b i) [] := by
  refine g_aload_n C 1 dL_law_733 rfl ?_
  refine g_callX 0 (As := []) C (c_X7_rate _ wX SX T hRX hI) gL_law_X7_rate rfl (by decide +kernel) (by decide +kernel) (by decide +kernel) rfl rfl (Nat.le_of_ble_eq_true rfl) dL_law_734 (fun r7 SX1 hp7 => ?_)
  obtain ⟨hr7, hX7⟩ := hp7
  refine g_aload_n C 2 dL_law_737 rfl ?_
  refine g_callM 0 (As := []) C e1 e2 (c_X8_rate _ wM SM T hRM hI) gL_law_X8_rate rfl (by decide +kernel) (by decide +kernel) (by decide +kernel) rfl rfl (Nat.le_of_ble_eq_true rfl) dL_law_738 (fun r8 SM1 hp8 => ?_)
  obtain ⟨hr8, hM8⟩ := hp8
  refine g_icmp_eq C 1122 dL_law_741 (by decide) (hr7.trans hr8.symm) ?_
  exact k SX1 SM1 T hI hX7 hM8
theorem lc_swapped (C : ih_Ok x wX A cL_law 4 RL wsL_law room_1 rr) (e1 : wM.1 = wX.1) (e2 : wM.2.1 = wX.2.1) (hX : va_X b L xs x.2.2.2.2.1 x.2.2.2.2.1.heap) (hbl : b < x.2.2.2.2.1.heap.size) (hbA : ¬ A b) (hL : L ≤ 3584) (hi : i + 7 ≤ L) (hI : ih_Inv T) (hRX : ih_RX SX T) (hRM : ih_RM SM T) (k : ∀ (SX' SM' : ih_Sg) (T' : ih_TT), ih_Inv T' → ih_RX SX' T' → ih_RM SM' T' → ih_Mg x (ih_P2 wX wM A SX' SM') A Q 4 76 154227 1122 (lw_L wX wM b i) []) : ih_Mg x (ih_P2 wX wM A SX SM) A Q 4 76 154227 746 (lw_L wX wM b i) [] := by
  refine g_aload_n C 1 dL_law_746 rfl ?_
  refine g_callX 0 (As := []) C (c_X7_swapped _ wX SX T hRX hI) gL_law_X7_swapped rfl (by decide +kernel) (by decide +kernel) (by decide +kernel) rfl rfl (Nat.le_of_ble_eq_true rfl) dL_law_747 (fun r7 SX1 hp7 => ?_)
  obtain ⟨hr7, hX7⟩ := hp7
  refine g_aload_n C 2 dL_law_750 rfl ?_
  refine g_callM 0 (As := []) C e1 e2 (c_X8_swapped _ wM SM T hRM hI) gL_law_X8_swapped rfl (by decide +kernel) (by decide +kernel) (by decide +kernel) rfl rfl (Nat.le_of_ble_eq_true rfl) dL_law_751 (fun r8 SM1 hp8 => ?_)
  obtain ⟨hr8, hM8⟩ := hp8
  refine g_icmp_eq C 1122 dL_law_754 (by decide) (hr7.trans hr8.symm) ?_
  exact k SX1 SM1 _ (iv_swapped hI) hX7 hM8
theorem lc_best (C : ih_Ok x wX A cL_law 4 RL wsL_law room_1 rr) (e1 : wM.1 = wX.1) (e2 : wM.2.1 = wX.2.1) (hX : va_X b L xs x.2.2.2.2.1 x.2.2.2.2.1.heap) (hbl : b < x.2.2.2.2.1.heap.size) (hbA : ¬ A b) (hL : L ≤ 3584) (hi : i + 7 ≤ L) (hI : ih_Inv T) (hRX : ih_RX SX T) (hRM : ih_RM SM T) (k : ∀ (SX' SM' : ih_Sg) (T' : ih_TT), ih_Inv T' → ih_RX SX' T' → ih_RM SM' T' → ih_Mg x (ih_P2 wX wM A SX' SM') A Q 4 76 154227 1122 (lw_L wX wM b i) []) : ih_Mg x (ih_P2 wX wM A SX SM) A Q 4 76 154227 759 (lw_L wX wM b i) [] := by
  refine g_aload_n C 1 dL_law_759 rfl ?_
  refine g_callX 0 (As := []) C (c_X7_best _ wX SX T hRX hI) gL_law_X7_best rfl (by decide +kernel) (by decide +kernel) (by decide +kernel) rfl rfl (Nat.le_of_ble_eq_true rfl) dL_law_760 (fun r7 SX1 hp7 => ?_)
  obtain ⟨hr7, hX7⟩ := hp7
  refine g_aload_n C 2 dL_law_763 rfl ?_
  refine g_callM 0 (As := []) C e1 e2 (c_X8_best _ wM SM T hRM hI) gL_law_X8_best rfl (by decide +kernel) (by decide +kernel) (by decide +kernel) rfl rfl (Nat.le_of_ble_eq_true rfl) dL_law_764 (fun r8 SM1 hp8 => ?_)
  obtain ⟨hr8, hM8⟩ := hp8
  obtain ⟨Bq, hM8⟩ := hM8
  refine g_icmp_eq C 1122 dL_law_767 (by decide) (hr7.trans hr8.symm) ?_
  exact k SX1 SM1 (ih_w8 (sp_best T).2 Bq) (ih_w8_I (iv_best hI)) (ih_RX_w8 hX7) hM8
theorem lc_team (C : ih_Ok x wX A cL_law 4 RL wsL_law room_1 rr) (e1 : wM.1 = wX.1) (e2 : wM.2.1 = wX.2.1) (hX : va_X b L xs x.2.2.2.2.1 x.2.2.2.2.1.heap) (hbl : b < x.2.2.2.2.1.heap.size) (hbA : ¬ A b) (hL : L ≤ 3584) (hi : i + 7 ≤ L) (hI : ih_Inv T) (hRX : ih_RX SX T) (hRM : ih_RM SM T) (k : ∀ (SX' SM' : ih_Sg) (T' : ih_TT), ih_Inv T' → ih_RX SX' T' → ih_RM SM' T' → ih_Mg x (ih_P2 wX wM A SX' SM') A Q 4 76 154227 1122 (lw_L wX wM b i) []) : ih_Mg x (ih_P2 wX wM A SX SM) A Q 4 76 154227 772 (lw_L wX wM b i) [] := by
  refine g_aload_n C 1 dL_law_772 rfl ?_
  refine g_aload_n C 0 dL_law_773 rfl ?_
  refine g_iload_n C 3 dL_law_774 rfl ?_
  refine g_iconst C (v := nI 1) dL_law_775 (by decide +kernel) ?_
  refine g_iadd C dL_law_776 ?_
  refine g_scr C hX hbl hbA (i := i + 1) (by omega) (by omega) dL_law_777 ?_
  refine g_aload_n C 0 dL_law_778 rfl ?_
  refine g_iload_n C 3 dL_law_779 rfl ?_
  refine g_iconst C (v := nI 2) dL_law_780 (by decide +kernel) ?_
  refine g_iadd C dL_law_781 ?_
  refine g_scr C hX hbl hbA (i := i + 2) (by omega) (by omega) dL_law_782 ?_
  refine g_callX 2 (As := [.int (xs (i + 1)), .int (xs (i + 2))]) C (c_X7_team _ wX SX T hRX hI _ _) gL_law_X7_team rfl (by decide +kernel) (by decide +kernel) (by decide +kernel) rfl rfl (Nat.le_of_ble_eq_true rfl) dL_law_783 (fun r7 SX1 hp7 => ?_)
  obtain ⟨hr7, hX7⟩ := hp7
  refine g_aload_n C 2 dL_law_786 rfl ?_
  refine g_aload_n C 0 dL_law_787 rfl ?_
  refine g_iload_n C 3 dL_law_788 rfl ?_
  refine g_iconst C (v := nI 1) dL_law_789 (by decide +kernel) ?_
  refine g_iadd C dL_law_790 ?_
  refine g_scr C hX hbl hbA (i := i + 1) (by omega) (by omega) dL_law_791 ?_
  refine g_aload_n C 0 dL_law_792 rfl ?_
  refine g_iload_n C 3 dL_law_793 rfl ?_
  refine g_iconst C (v := nI 2) dL_law_794 (by decide +kernel) ?_
  refine g_iadd C dL_law_795 ?_
  refine g_scr C hX hbl hbA (i := i + 2) (by omega) (by omega) dL_law_796 ?_
  refine g_callM 2 (As := [.int (xs (i + 1)), .int (xs (i + 2))]) C e1 e2 (c_X8_team _ wM SM T hRM hI _ _) gL_law_X8_team rfl (by decide +kernel) (by decide +kernel) (by decide +kernel) rfl rfl (Nat.le_of_ble_eq_true rfl) dL_law_797 (fun r8 SM1 hp8 => ?_)
  obtain ⟨hr8, hM8⟩ := hp8
  refine g_icmp_eq C 1122 dL_law_800 (by decide) (hr7.trans hr8.symm) ?_
  exact k SX1 SM1 _ (iv_team hI _ _) hX7 hM8
theorem lc_game (C : ih_Ok x wX A cL_law 4 RL wsL_law room_1 rr) (e1 : wM.1 = wX.1) (e2 : wM.2.1 = wX.2.1) (hX : va_X b L xs x.2.2.2.2.1 x.2.2.2.2.1.heap) (hbl : b < x.2.2.2.2.1.heap.size) (hbA : ¬ A b) (hL : L ≤ 3584) (hi : i + 7 ≤ L) (hI : ih_Inv T) (hRX : ih_RX SX T) (hRM : ih_RM SM T) (k : ∀ (SX' SM' : ih_Sg) (T' : ih_TT), ih_Inv T' → ih_RX SX' T' → ih_RM SM' T' → ih_Mg x (ih_P2 wX wM A SX' SM') A Q 4 76 154227 1122 (lw_L wX wM b i) []) : ih_Mg x (ih_P2 wX wM A SX SM) A Q 4 76 154227 805 (lw_L wX wM b i) [] := by
  refine g_aload_n C 1 dL_law_805 rfl ?_
  refine g_aload_n C 0 dL_law_806 rfl ?_
  refine g_iload_n C 3 dL_law_807 rfl ?_
  refine g_iconst C (v := nI 1) dL_law_808 (by decide +kernel) ?_
  refine g_iadd C dL_law_809 ?_
  refine g_scr C hX hbl hbA (i := i + 1) (by omega) (by omega) dL_law_810 ?_
  refine g_aload_n C 0 dL_law_811 rfl ?_
  refine g_iload_n C 3 dL_law_812 rfl ?_
  refine g_iconst C (v := nI 2) dL_law_813 (by decide +kernel) ?_
  refine g_iadd C dL_law_814 ?_
  refine g_scr C hX hbl hbA (i := i + 2) (by omega) (by omega) dL_law_815 ?_
  refine g_aload_n C 0 dL_law_816 rfl ?_
  refine g_iload_n C 3 dL_law_817 rfl ?_
  refine g_iconst C (v := nI 3) dL_law_818 (by decide +kernel) ?_
  refine g_iadd C dL_law_819 ?_
  refine g_scr C hX hbl hbA (i := i + 3) (by omega) (by omega) dL_law_820 ?_
  refine g_aload_n C 0 dL_law_821 rfl ?_
  refine g_iload_n C 3 dL_law_822 rfl ?_
  refine g_iconst C (v := nI 4) dL_law_823 (by decide +kernel) ?_
  refine g_iadd C dL_law_824 ?_
  refine g_scr C hX hbl hbA (i := i + 4) (by omega) (by omega) dL_law_825 ?_
  refine g_aload_n C 0 dL_law_826 rfl ?_
  refine g_iload_n C 3 dL_law_827 rfl ?_
  refine g_iconst C (v := nI 5) dL_law_828 (by decide +kernel) ?_
  refine g_iadd C dL_law_829 ?_
  refine g_scr C hX hbl hbA (i := i + 5) (by omega) (by omega) dL_law_830 ?_
  refine g_callX 5 (As := [.int (xs (i + 1)), .int (xs (i + 2)), .int (xs (i + 3)), .int (xs (i + 4)), .int (xs (i + 5))]) C (c_X7_game _ wX SX T hRX hI _ _ _ _ _) gL_law_X7_game rfl (by decide +kernel) (by decide +kernel) (by decide +kernel) rfl rfl (Nat.le_of_ble_eq_true rfl) dL_law_831 (fun r7 SX1 hp7 => ?_)
  obtain ⟨hr7, hX7⟩ := hp7
  refine g_aload_n C 2 dL_law_834 rfl ?_
  refine g_aload_n C 0 dL_law_835 rfl ?_
  refine g_iload_n C 3 dL_law_836 rfl ?_
  refine g_iconst C (v := nI 1) dL_law_837 (by decide +kernel) ?_
  refine g_iadd C dL_law_838 ?_
  refine g_scr C hX hbl hbA (i := i + 1) (by omega) (by omega) dL_law_839 ?_
  refine g_aload_n C 0 dL_law_840 rfl ?_
  refine g_iload_n C 3 dL_law_841 rfl ?_
  refine g_iconst C (v := nI 2) dL_law_842 (by decide +kernel) ?_
  refine g_iadd C dL_law_843 ?_
  refine g_scr C hX hbl hbA (i := i + 2) (by omega) (by omega) dL_law_844 ?_
  refine g_aload_n C 0 dL_law_845 rfl ?_
  refine g_iload_n C 3 dL_law_846 rfl ?_
  refine g_iconst C (v := nI 3) dL_law_847 (by decide +kernel) ?_
  refine g_iadd C dL_law_848 ?_
  refine g_scr C hX hbl hbA (i := i + 3) (by omega) (by omega) dL_law_849 ?_
  refine g_aload_n C 0 dL_law_850 rfl ?_
  refine g_iload_n C 3 dL_law_851 rfl ?_
  refine g_iconst C (v := nI 4) dL_law_852 (by decide +kernel) ?_
  refine g_iadd C dL_law_853 ?_
  refine g_scr C hX hbl hbA (i := i + 4) (by omega) (by omega) dL_law_854 ?_
  refine g_aload_n C 0 dL_law_855 rfl ?_
  refine g_iload_n C 3 dL_law_856 rfl ?_
  refine g_iconst C (v := nI 5) dL_law_857 (by decide +kernel) ?_
  refine g_iadd C dL_law_858 ?_
  refine g_scr C hX hbl hbA (i := i + 5) (by omega) (by omega) dL_law_859 ?_
  refine g_callM 5 (As := [.int (xs (i + 1)), .int (xs (i + 2)), .int (xs (i + 3)), .int (xs (i + 4)), .int (xs (i + 5))]) C e1 e2 (c_X8_game _ wM SM T hRM hI _ _ _ _ _) gL_law_X8_game rfl (by decide +kernel) (by decide +kernel) (by decide +kernel) rfl rfl (Nat.le_of_ble_eq_true rfl) dL_law_860 (fun r8 SM1 hp8 => ?_)
  obtain ⟨hr8, hM8⟩ := hp8
  refine g_icmp_eq C 1122 dL_law_863 (by decide) (hr7.trans hr8.symm) ?_
  exact k SX1 SM1 T hI hX7 hM8
theorem lc_log (C : ih_Ok x wX A cL_law 4 RL wsL_law room_1 rr) (e1 : wM.1 = wX.1) (e2 : wM.2.1 = wX.2.1) (hX : va_X b L xs x.2.2.2.2.1 x.2.2.2.2.1.heap) (hbl : b < x.2.2.2.2.1.heap.size) (hbA : ¬ A b) (hL : L ≤ 3584) (hi : i + 7 ≤ L) (hI : ih_Inv T) (hRX : ih_RX SX T) (hRM : ih_RM SM T) (k : ∀ (SX' SM' : ih_Sg) (T' : ih_TT), ih_Inv T' → ih_RX SX' T' → ih_RM SM' T' → ih_Mg x (ih_P2 wX wM A SX' SM') A Q 4 76 154227 1122 (lw_L wX wM b i) []) : ih_Mg x (ih_P2 wX wM A SX SM) A Q 4 76 154227 868 (lw_L wX wM b i) [] := by
  refine g_aload_n C 1 dL_law_868 rfl ?_
  refine g_aload_n C 0 dL_law_869 rfl ?_
  refine g_iload_n C 3 dL_law_870 rfl ?_
  refine g_iconst C (v := nI 1) dL_law_871 (by decide +kernel) ?_
  refine g_iadd C dL_law_872 ?_
  refine g_scr C hX hbl hbA (i := i + 1) (by omega) (by omega) dL_law_873 ?_
  refine g_aload_n C 0 dL_law_874 rfl ?_
  refine g_iload_n C 3 dL_law_875 rfl ?_
  refine g_iconst C (v := nI 2) dL_law_876 (by decide +kernel) ?_
  refine g_iadd C dL_law_877 ?_
  refine g_scr C hX hbl hbA (i := i + 2) (by omega) (by omega) dL_law_878 ?_
  refine g_aload_n C 0 dL_law_879 rfl ?_
  refine g_iload_n C 3 dL_law_880 rfl ?_
  refine g_iconst C (v := nI 3) dL_law_881 (by decide +kernel) ?_
  refine g_iadd C dL_law_882 ?_
  refine g_scr C hX hbl hbA (i := i + 3) (by omega) (by omega) dL_law_883 ?_
  refine g_aload_n C 0 dL_law_884 rfl ?_
  refine g_iload_n C 3 dL_law_885 rfl ?_
  refine g_iconst C (v := nI 4) dL_law_886 (by decide +kernel) ?_
  refine g_iadd C dL_law_887 ?_
  refine g_scr C hX hbl hbA (i := i + 4) (by omega) (by omega) dL_law_888 ?_
  refine g_callX 4 (As := [.int (xs (i + 1)), .int (xs (i + 2)), .int (xs (i + 3)), .int (xs (i + 4))]) C (c_X7_log _ wX SX T hRX hI _ _ _ _) gL_law_X7_log rfl (by decide +kernel) (by decide +kernel) (by decide +kernel) rfl rfl (Nat.le_of_ble_eq_true rfl) dL_law_889 (fun r7 SX1 hp7 => ?_)
  obtain ⟨hr7, hX7⟩ := hp7
  refine g_aload_n C 2 dL_law_892 rfl ?_
  refine g_aload_n C 0 dL_law_893 rfl ?_
  refine g_iload_n C 3 dL_law_894 rfl ?_
  refine g_iconst C (v := nI 1) dL_law_895 (by decide +kernel) ?_
  refine g_iadd C dL_law_896 ?_
  refine g_scr C hX hbl hbA (i := i + 1) (by omega) (by omega) dL_law_897 ?_
  refine g_aload_n C 0 dL_law_898 rfl ?_
  refine g_iload_n C 3 dL_law_899 rfl ?_
  refine g_iconst C (v := nI 2) dL_law_900 (by decide +kernel) ?_
  refine g_iadd C dL_law_901 ?_
  refine g_scr C hX hbl hbA (i := i + 2) (by omega) (by omega) dL_law_902 ?_
  refine g_aload_n C 0 dL_law_903 rfl ?_
  refine g_iload_n C 3 dL_law_904 rfl ?_
  refine g_iconst C (v := nI 3) dL_law_905 (by decide +kernel) ?_
  refine g_iadd C dL_law_906 ?_
  refine g_scr C hX hbl hbA (i := i + 3) (by omega) (by omega) dL_law_907 ?_
  refine g_aload_n C 0 dL_law_908 rfl ?_
  refine g_iload_n C 3 dL_law_909 rfl ?_
  refine g_iconst C (v := nI 4) dL_law_910 (by decide +kernel) ?_
  refine g_iadd C dL_law_911 ?_
  refine g_scr C hX hbl hbA (i := i + 4) (by omega) (by omega) dL_law_912 ?_
  refine g_callM 4 (As := [.int (xs (i + 1)), .int (xs (i + 2)), .int (xs (i + 3)), .int (xs (i + 4))]) C e1 e2 (c_X8_log _ wM SM T hRM hI _ _ _ _) gL_law_X8_log rfl (by decide +kernel) (by decide +kernel) (by decide +kernel) rfl rfl (Nat.le_of_ble_eq_true rfl) dL_law_913 (fun r8 SM1 hp8 => ?_)
  obtain ⟨hr8, hM8⟩ := hp8
  refine g_icmp_eq C 1122 dL_law_916 (by decide) (hr7.trans hr8.symm) ?_
  exact k SX1 SM1 _ (iv_log hI _ _ _ _) hX7 hM8
theorem lc_learn (C : ih_Ok x wX A cL_law 4 RL wsL_law room_1 rr) (e1 : wM.1 = wX.1) (e2 : wM.2.1 = wX.2.1) (hX : va_X b L xs x.2.2.2.2.1 x.2.2.2.2.1.heap) (hbl : b < x.2.2.2.2.1.heap.size) (hbA : ¬ A b) (hL : L ≤ 3584) (hi : i + 7 ≤ L) (hI : ih_Inv T) (hRX : ih_RX SX T) (hRM : ih_RM SM T) (k : ∀ (SX' SM' : ih_Sg) (T' : ih_TT), ih_Inv T' → ih_RX SX' T' → ih_RM SM' T' → ih_Mg x (ih_P2 wX wM A SX' SM') A Q 4 76 154227 1122 (lw_L wX wM b i) []) : ih_Mg x (ih_P2 wX wM A SX SM) A Q 4 76 154227 921 (lw_L wX wM b i) [] := by
  refine g_aload_n C 1 dL_law_921 rfl ?_
  refine g_aload_n C 0 dL_law_922 rfl ?_
  refine g_iload_n C 3 dL_law_923 rfl ?_
  refine g_iconst C (v := nI 1) dL_law_924 (by decide +kernel) ?_
  refine g_iadd C dL_law_925 ?_
  refine g_scr C hX hbl hbA (i := i + 1) (by omega) (by omega) dL_law_926 ?_
  refine g_aload_n C 0 dL_law_927 rfl ?_
  refine g_iload_n C 3 dL_law_928 rfl ?_
  refine g_iconst C (v := nI 2) dL_law_929 (by decide +kernel) ?_
  refine g_iadd C dL_law_930 ?_
  refine g_scr C hX hbl hbA (i := i + 2) (by omega) (by omega) dL_law_931 ?_
  refine g_aload_n C 0 dL_law_932 rfl ?_
  refine g_iload_n C 3 dL_law_933 rfl ?_
  refine g_iconst C (v := nI 3) dL_law_934 (by decide +kernel) ?_
  refine g_iadd C dL_law_935 ?_
  refine g_scr C hX hbl hbA (i := i + 3) (by omega) (by omega) dL_law_936 ?_
  refine g_aload_n C 0 dL_law_937 rfl ?_
  refine g_iload_n C 3 dL_law_938 rfl ?_
  refine g_iconst C (v := nI 4) dL_law_939 (by decide +kernel) ?_
  refine g_iadd C dL_law_940 ?_
  refine g_scr C hX hbl hbA (i := i + 4) (by omega) (by omega) dL_law_941 ?_
  refine g_callX 4 (As := [.int (xs (i + 1)), .int (xs (i + 2)), .int (xs (i + 3)), .int (xs (i + 4))]) C (c_X7_learn _ wX SX T hRX hI _ _ _ _) gL_law_X7_learn rfl (by decide +kernel) (by decide +kernel) (by decide +kernel) rfl rfl (Nat.le_of_ble_eq_true rfl) dL_law_942 (fun r7 SX1 hp7 => ?_)
  obtain ⟨hr7, hX7⟩ := hp7
  refine g_aload_n C 2 dL_law_945 rfl ?_
  refine g_aload_n C 0 dL_law_946 rfl ?_
  refine g_iload_n C 3 dL_law_947 rfl ?_
  refine g_iconst C (v := nI 1) dL_law_948 (by decide +kernel) ?_
  refine g_iadd C dL_law_949 ?_
  refine g_scr C hX hbl hbA (i := i + 1) (by omega) (by omega) dL_law_950 ?_
  refine g_aload_n C 0 dL_law_951 rfl ?_
  refine g_iload_n C 3 dL_law_952 rfl ?_
  refine g_iconst C (v := nI 2) dL_law_953 (by decide +kernel) ?_
  refine g_iadd C dL_law_954 ?_
  refine g_scr C hX hbl hbA (i := i + 2) (by omega) (by omega) dL_law_955 ?_
  refine g_aload_n C 0 dL_law_956 rfl ?_
  refine g_iload_n C 3 dL_law_957 rfl ?_
  refine g_iconst C (v := nI 3) dL_law_958 (by decide +kernel) ?_
  refine g_iadd C dL_law_959 ?_
  refine g_scr C hX hbl hbA (i := i + 3) (by omega) (by omega) dL_law_960 ?_
  refine g_aload_n C 0 dL_law_961 rfl ?_
  refine g_iload_n C 3 dL_law_962 rfl ?_
  refine g_iconst C (v := nI 4) dL_law_963 (by decide +kernel) ?_
  refine g_iadd C dL_law_964 ?_
  refine g_scr C hX hbl hbA (i := i + 4) (by omega) (by omega) dL_law_965 ?_
  refine g_callM 4 (As := [.int (xs (i + 1)), .int (xs (i + 2)), .int (xs (i + 3)), .int (xs (i + 4))]) C e1 e2 (c_X8_learn _ wM SM T hRM hI _ _ _ _) gL_law_X8_learn rfl (by decide +kernel) (by decide +kernel) (by decide +kernel) rfl rfl (Nat.le_of_ble_eq_true rfl) dL_law_966 (fun r8 SM1 hp8 => ?_)
  obtain ⟨hr8, hM8⟩ := hp8
  refine g_icmp_eq C 1122 dL_law_969 (by decide) (hr7.trans hr8.symm) ?_
  exact k SX1 SM1 _ (iv_learn hI _ _ _ _) hX7 hM8
theorem lc_kind (C : ih_Ok x wX A cL_law 4 RL wsL_law room_1 rr) (e1 : wM.1 = wX.1) (e2 : wM.2.1 = wX.2.1) (hX : va_X b L xs x.2.2.2.2.1 x.2.2.2.2.1.heap) (hbl : b < x.2.2.2.2.1.heap.size) (hbA : ¬ A b) (hL : L ≤ 3584) (hi : i + 7 ≤ L) (hI : ih_Inv T) (hRX : ih_RX SX T) (hRM : ih_RM SM T) (k : ∀ (SX' SM' : ih_Sg) (T' : ih_TT), ih_Inv T' → ih_RX SX' T' → ih_RM SM' T' → ih_Mg x (ih_P2 wX wM A SX' SM') A Q 4 76 154227 1122 (lw_L wX wM b i) []) : ih_Mg x (ih_P2 wX wM A SX SM) A Q 4 76 154227 974 (lw_L wX wM b i) [] := by
  refine g_aload_n C 1 dL_law_974 rfl ?_
  refine g_aload_n C 0 dL_law_975 rfl ?_
  refine g_iload_n C 3 dL_law_976 rfl ?_
  refine g_iconst C (v := nI 1) dL_law_977 (by decide +kernel) ?_
  refine g_iadd C dL_law_978 ?_
  refine g_scr C hX hbl hbA (i := i + 1) (by omega) (by omega) dL_law_979 ?_
  refine g_callX 1 (As := [.int (xs (i + 1))]) C (c_X7_kind _ wX SX T hRX hI _) gL_law_X7_kind rfl (by decide +kernel) (by decide +kernel) (by decide +kernel) rfl rfl (Nat.le_of_ble_eq_true rfl) dL_law_980 (fun r7 SX1 hp7 => ?_)
  obtain ⟨hr7, hX7⟩ := hp7
  refine g_aload_n C 2 dL_law_983 rfl ?_
  refine g_aload_n C 0 dL_law_984 rfl ?_
  refine g_iload_n C 3 dL_law_985 rfl ?_
  refine g_iconst C (v := nI 1) dL_law_986 (by decide +kernel) ?_
  refine g_iadd C dL_law_987 ?_
  refine g_scr C hX hbl hbA (i := i + 1) (by omega) (by omega) dL_law_988 ?_
  refine g_callM 1 (As := [.int (xs (i + 1))]) C e1 e2 (c_X8_kind _ wM SM T hRM hI _) gL_law_X8_kind rfl (by decide +kernel) (by decide +kernel) (by decide +kernel) rfl rfl (Nat.le_of_ble_eq_true rfl) dL_law_989 (fun r8 SM1 hp8 => ?_)
  obtain ⟨hr8, hM8⟩ := hp8
  refine g_icmp_eq C 1122 dL_law_992 (by decide) (hr7.trans hr8.symm) ?_
  exact k SX1 SM1 T hI hX7 hM8
theorem lc_as (C : ih_Ok x wX A cL_law 4 RL wsL_law room_1 rr) (e1 : wM.1 = wX.1) (e2 : wM.2.1 = wX.2.1) (hX : va_X b L xs x.2.2.2.2.1 x.2.2.2.2.1.heap) (hbl : b < x.2.2.2.2.1.heap.size) (hbA : ¬ A b) (hL : L ≤ 3584) (hi : i + 7 ≤ L) (hI : ih_Inv T) (hRX : ih_RX SX T) (hRM : ih_RM SM T) (k : ∀ (SX' SM' : ih_Sg) (T' : ih_TT), ih_Inv T' → ih_RX SX' T' → ih_RM SM' T' → ih_Mg x (ih_P2 wX wM A SX' SM') A Q 4 76 154227 1122 (lw_L wX wM b i) []) : ih_Mg x (ih_P2 wX wM A SX SM) A Q 4 76 154227 997 (lw_L wX wM b i) [] := by
  refine g_aload_n C 1 dL_law_997 rfl ?_
  refine g_aload_n C 0 dL_law_998 rfl ?_
  refine g_iload_n C 3 dL_law_999 rfl ?_
  refine g_iconst C (v := nI 1) dL_law_1000 (by decide +kernel) ?_
  refine g_iadd C dL_law_1001 ?_
  refine g_scr C hX hbl hbA (i := i + 1) (by omega) (by omega) dL_law_1002 ?_
  refine g_aload_n C 0 dL_law_1003 rfl ?_
  refine g_iload_n C 3 dL_law_1004 rfl ?_
  refine g_iconst C (v := nI 2) dL_law_1005 (by decide +kernel) ?_
  refine g_iadd C dL_law_1006 ?_
  refine g_scr C hX hbl hbA (i := i + 2) (by omega) (by omega) dL_law_1007 ?_
  refine g_callX 2 (As := [.int (xs (i + 1)), .int (xs (i + 2))]) C (c_X7_as _ wX SX T hRX hI _ _) gL_law_X7_as rfl (by decide +kernel) (by decide +kernel) (by decide +kernel) rfl rfl (Nat.le_of_ble_eq_true rfl) dL_law_1008 (fun r7 SX1 hp7 => ?_)
  obtain ⟨hr7, hX7⟩ := hp7
  refine g_aload_n C 2 dL_law_1011 rfl ?_
  refine g_aload_n C 0 dL_law_1012 rfl ?_
  refine g_iload_n C 3 dL_law_1013 rfl ?_
  refine g_iconst C (v := nI 1) dL_law_1014 (by decide +kernel) ?_
  refine g_iadd C dL_law_1015 ?_
  refine g_scr C hX hbl hbA (i := i + 1) (by omega) (by omega) dL_law_1016 ?_
  refine g_aload_n C 0 dL_law_1017 rfl ?_
  refine g_iload_n C 3 dL_law_1018 rfl ?_
  refine g_iconst C (v := nI 2) dL_law_1019 (by decide +kernel) ?_
  refine g_iadd C dL_law_1020 ?_
  refine g_scr C hX hbl hbA (i := i + 2) (by omega) (by omega) dL_law_1021 ?_
  refine g_callM 2 (As := [.int (xs (i + 1)), .int (xs (i + 2))]) C e1 e2 (c_X8_as _ wM SM T hRM hI _ _) gL_law_X8_as rfl (by decide +kernel) (by decide +kernel) (by decide +kernel) rfl rfl (Nat.le_of_ble_eq_true rfl) dL_law_1022 (fun r8 SM1 hp8 => ?_)
  obtain ⟨hr8, hM8⟩ := hp8
  refine g_icmp_eq C 1122 dL_law_1025 (by decide) (hr7.trans hr8.symm) ?_
  exact k SX1 SM1 _ (iv_as hI _ _) hX7 hM8
theorem lc_ask (C : ih_Ok x wX A cL_law 4 RL wsL_law room_1 rr) (e1 : wM.1 = wX.1) (e2 : wM.2.1 = wX.2.1) (hX : va_X b L xs x.2.2.2.2.1 x.2.2.2.2.1.heap) (hbl : b < x.2.2.2.2.1.heap.size) (hbA : ¬ A b) (hL : L ≤ 3584) (hi : i + 7 ≤ L) (hI : ih_Inv T) (hRX : ih_RX SX T) (hRM : ih_RM SM T) (k : ∀ (SX' SM' : ih_Sg) (T' : ih_TT), ih_Inv T' → ih_RX SX' T' → ih_RM SM' T' → ih_Mg x (ih_P2 wX wM A SX' SM') A Q 4 76 154227 1122 (lw_L wX wM b i) []) : ih_Mg x (ih_P2 wX wM A SX SM) A Q 4 76 154227 1030 (lw_L wX wM b i) [] := by
  refine g_aload_n C 1 dL_law_1030 rfl ?_
  refine g_aload_n C 0 dL_law_1031 rfl ?_
  refine g_iload_n C 3 dL_law_1032 rfl ?_
  refine g_iconst C (v := nI 1) dL_law_1033 (by decide +kernel) ?_
  refine g_iadd C dL_law_1034 ?_
  refine g_scr C hX hbl hbA (i := i + 1) (by omega) (by omega) dL_law_1035 ?_
  refine g_aload_n C 0 dL_law_1036 rfl ?_
  refine g_iload_n C 3 dL_law_1037 rfl ?_
  refine g_iconst C (v := nI 2) dL_law_1038 (by decide +kernel) ?_
  refine g_iadd C dL_law_1039 ?_
  refine g_scr C hX hbl hbA (i := i + 2) (by omega) (by omega) dL_law_1040 ?_
  refine g_callX 2 (As := [.int (xs (i + 1)), .int (xs (i + 2))]) C (c_X7_ask _ wX SX T hRX hI _ _) gL_law_X7_ask rfl (by decide +kernel) (by decide +kernel) (by decide +kernel) rfl rfl (Nat.le_of_ble_eq_true rfl) dL_law_1041 (fun r7 SX1 hp7 => ?_)
  obtain ⟨hr7, hX7⟩ := hp7
  refine g_aload_n C 2 dL_law_1044 rfl ?_
  refine g_aload_n C 0 dL_law_1045 rfl ?_
  refine g_iload_n C 3 dL_law_1046 rfl ?_
  refine g_iconst C (v := nI 1) dL_law_1047 (by decide +kernel) ?_
  refine g_iadd C dL_law_1048 ?_
  refine g_scr C hX hbl hbA (i := i + 1) (by omega) (by omega) dL_law_1049 ?_
  refine g_aload_n C 0 dL_law_1050 rfl ?_
  refine g_iload_n C 3 dL_law_1051 rfl ?_
  refine g_iconst C (v := nI 2) dL_law_1052 (by decide +kernel) ?_
  refine g_iadd C dL_law_1053 ?_
  refine g_scr C hX hbl hbA (i := i + 2) (by omega) (by omega) dL_law_1054 ?_
  refine g_callM 2 (As := [.int (xs (i + 1)), .int (xs (i + 2))]) C e1 e2 (c_X8_ask _ wM SM T hRM hI _ _) gL_law_X8_ask rfl (by decide +kernel) (by decide +kernel) (by decide +kernel) rfl rfl (Nat.le_of_ble_eq_true rfl) dL_law_1055 (fun r8 SM1 hp8 => ?_)
  obtain ⟨hr8, hM8⟩ := hp8
  refine g_icmp_eq C 1122 dL_law_1058 (by decide) (hr7.trans hr8.symm) ?_
  exact k SX1 SM1 _ (iv_ask hI _ _) hX7 hM8
theorem lc_trace (C : ih_Ok x wX A cL_law 4 RL wsL_law room_1 rr) (e1 : wM.1 = wX.1) (e2 : wM.2.1 = wX.2.1) (hX : va_X b L xs x.2.2.2.2.1 x.2.2.2.2.1.heap) (hbl : b < x.2.2.2.2.1.heap.size) (hbA : ¬ A b) (hL : L ≤ 3584) (hi : i + 7 ≤ L) (hI : ih_Inv T) (hRX : ih_RX SX T) (hRM : ih_RM SM T) (k : ∀ (SX' SM' : ih_Sg) (T' : ih_TT), ih_Inv T' → ih_RX SX' T' → ih_RM SM' T' → ih_Mg x (ih_P2 wX wM A SX' SM') A Q 4 76 154227 1122 (lw_L wX wM b i) []) : ih_Mg x (ih_P2 wX wM A SX SM) A Q 4 76 154227 1063 (lw_L wX wM b i) [] := by
  refine g_aload_n C 1 dL_law_1063 rfl ?_
  refine g_aload_n C 0 dL_law_1064 rfl ?_
  refine g_iload_n C 3 dL_law_1065 rfl ?_
  refine g_iconst C (v := nI 1) dL_law_1066 (by decide +kernel) ?_
  refine g_iadd C dL_law_1067 ?_
  refine g_scr C hX hbl hbA (i := i + 1) (by omega) (by omega) dL_law_1068 ?_
  refine g_callX 1 (As := [.int (xs (i + 1))]) C (c_X7_trace _ wX SX T hRX hI _) gL_law_X7_trace rfl (by decide +kernel) (by decide +kernel) (by decide +kernel) rfl rfl (Nat.le_of_ble_eq_true rfl) dL_law_1069 (fun r7 SX1 hp7 => ?_)
  obtain ⟨hr7, hX7⟩ := hp7
  refine g_aload_n C 2 dL_law_1072 rfl ?_
  refine g_aload_n C 0 dL_law_1073 rfl ?_
  refine g_iload_n C 3 dL_law_1074 rfl ?_
  refine g_iconst C (v := nI 1) dL_law_1075 (by decide +kernel) ?_
  refine g_iadd C dL_law_1076 ?_
  refine g_scr C hX hbl hbA (i := i + 1) (by omega) (by omega) dL_law_1077 ?_
  refine g_callM 1 (As := [.int (xs (i + 1))]) C e1 e2 (c_X8_trace _ wM SM T hRM hI _) gL_law_X8_trace rfl (by decide +kernel) (by decide +kernel) (by decide +kernel) rfl rfl (Nat.le_of_ble_eq_true rfl) dL_law_1078 (fun r8 SM1 hp8 => ?_)
  obtain ⟨hr8, hM8⟩ := hp8
  refine g_icmp_eq C 1122 dL_law_1081 (by decide) (hr7.trans hr8.symm) ?_
  exact k SX1 SM1 T hI hX7 hM8
theorem lc_count (C : ih_Ok x wX A cL_law 4 RL wsL_law room_1 rr) (e1 : wM.1 = wX.1) (e2 : wM.2.1 = wX.2.1) (hX : va_X b L xs x.2.2.2.2.1 x.2.2.2.2.1.heap) (hbl : b < x.2.2.2.2.1.heap.size) (hbA : ¬ A b) (hL : L ≤ 3584) (hi : i + 7 ≤ L) (hI : ih_Inv T) (hRX : ih_RX SX T) (hRM : ih_RM SM T) (k : ∀ (SX' SM' : ih_Sg) (T' : ih_TT), ih_Inv T' → ih_RX SX' T' → ih_RM SM' T' → ih_Mg x (ih_P2 wX wM A SX' SM') A Q 4 76 154227 1122 (lw_L wX wM b i) []) : ih_Mg x (ih_P2 wX wM A SX SM) A Q 4 76 154227 1086 (lw_L wX wM b i) [] := by
  refine g_aload_n C 1 dL_law_1086 rfl ?_
  refine g_aload_n C 0 dL_law_1087 rfl ?_
  refine g_iload_n C 3 dL_law_1088 rfl ?_
  refine g_iconst C (v := nI 1) dL_law_1089 (by decide +kernel) ?_
  refine g_iadd C dL_law_1090 ?_
  refine g_scr C hX hbl hbA (i := i + 1) (by omega) (by omega) dL_law_1091 ?_
  refine g_callX 1 (As := [.int (xs (i + 1))]) C (c_X7_count _ wX SX T hRX hI _) gL_law_X7_count rfl (by decide +kernel) (by decide +kernel) (by decide +kernel) rfl rfl (Nat.le_of_ble_eq_true rfl) dL_law_1092 (fun r7 SX1 hp7 => ?_)
  obtain ⟨hr7, hX7⟩ := hp7
  refine g_aload_n C 2 dL_law_1095 rfl ?_
  refine g_aload_n C 0 dL_law_1096 rfl ?_
  refine g_iload_n C 3 dL_law_1097 rfl ?_
  refine g_iconst C (v := nI 1) dL_law_1098 (by decide +kernel) ?_
  refine g_iadd C dL_law_1099 ?_
  refine g_scr C hX hbl hbA (i := i + 1) (by omega) (by omega) dL_law_1100 ?_
  refine g_callM 1 (As := [.int (xs (i + 1))]) C e1 e2 (c_X8_count _ wM SM T hRM hI _) gL_law_X8_count rfl (by decide +kernel) (by decide +kernel) (by decide +kernel) rfl rfl (Nat.le_of_ble_eq_true rfl) dL_law_1101 (fun r8 SM1 hp8 => ?_)
  obtain ⟨hr8, hM8⟩ := hp8
  refine g_icmp_eq C 1122 dL_law_1104 (by decide) (hr7.trans hr8.symm) ?_
  exact k SX1 SM1 T hI hX7 hM8
theorem lc_status (C : ih_Ok x wX A cL_law 4 RL wsL_law room_1 rr) (e1 : wM.1 = wX.1) (e2 : wM.2.1 = wX.2.1) (hX : va_X b L xs x.2.2.2.2.1 x.2.2.2.2.1.heap) (hbl : b < x.2.2.2.2.1.heap.size) (hbA : ¬ A b) (hL : L ≤ 3584) (hi : i + 7 ≤ L) (hI : ih_Inv T) (hRX : ih_RX SX T) (hRM : ih_RM SM T) (k : ∀ (SX' SM' : ih_Sg) (T' : ih_TT), ih_Inv T' → ih_RX SX' T' → ih_RM SM' T' → ih_Mg x (ih_P2 wX wM A SX' SM') A Q 4 76 154227 1122 (lw_L wX wM b i) []) : ih_Mg x (ih_P2 wX wM A SX SM) A Q 4 76 154227 1109 (lw_L wX wM b i) [] := by
  refine g_aload_n C 1 dL_law_1109 rfl ?_
  refine g_callX 0 (As := []) C (c_X7_status _ wX SX T hRX hI) gL_law_X7_status rfl (by decide +kernel) (by decide +kernel) (by decide +kernel) rfl rfl (Nat.le_of_ble_eq_true rfl) dL_law_1110 (fun r7 SX1 hp7 => ?_)
  obtain ⟨hr7, hX7⟩ := hp7
  refine g_aload_n C 2 dL_law_1113 rfl ?_
  refine g_callM 0 (As := []) C e1 e2 (c_X8_status _ wM SM T hRM hI) gL_law_X8_status rfl (by decide +kernel) (by decide +kernel) (by decide +kernel) rfl rfl (Nat.le_of_ble_eq_true rfl) dL_law_1114 (fun r8 SM1 hp8 => ?_)
  obtain ⟨hr8, hM8⟩ := hp8
  refine g_icmp_eq C 1122 dL_law_1117 (by decide) (hr7.trans hr8.symm) ?_
  exact k SX1 SM1 T hI hX7 hM8
theorem lw_head (C : ih_Ok x wX A cL_law 4 RL wsL_law room_1 rr) (e1 : wM.1 = wX.1) (e2 : wM.2.1 = wX.2.1) (hX : va_X b L xs x.2.2.2.2.1 x.2.2.2.2.1.heap) (hbl : b < x.2.2.2.2.1.heap.size) (hbA : ¬ A b) (hL : L ≤ 3584) (kt : ih_Mg x (ih_P2 wX wM A SX SM) A Q 4 76 154227 1128 (lw_L wX wM b i) []) (hi : i ≤ 4000) (kf : i + 7 ≤ L → ih_Mg x (ih_P2 wX wM A SX SM) A Q 4 76 154227 27 (lw_L wX wM b i) []) : ih_Mg x (ih_P2 wX wM A SX SM) A Q 4 76 154227 18 (lw_L wX wM b i) [] := by
  refine g_iload_n C 3 dL_law_18 rfl ?_
  refine g_aload_n C 0 dL_law_19 rfl ?_
  refine g_slen C hX hbl hbA dL_law_20 ?_
  refine g_bipush C (v := nI 7) dL_law_21 (by decide +kernel) ?_
  refine g_isub C dL_law_23 ?_
  refine g_icmp_gt C 1128 dL_law_24 (by decide) (fun _ => kt) (fun h => ?_)
  refine kf ?_
  rw [Int32.lt_iff_toInt_lt, nI_sub7 hL, nI_toInt (by omega)] at h
  omega
theorem lw_tail (C : ih_Ok x wX A cL_law 4 RL wsL_law room_1 rr) (e1 : wM.1 = wX.1) (e2 : wM.2.1 = wX.2.1) (hX : va_X b L xs x.2.2.2.2.1 x.2.2.2.2.1.heap) (hbl : b < x.2.2.2.2.1.heap.size) (hbA : ¬ A b) (hL : L ≤ 3584) (k : ih_Mg x (ih_P2 wX wM A SX SM) A Q 4 76 154227 18 (lw_L wX wM b (i + 7)) []) : ih_Mg x (ih_P2 wX wM A SX SM) A Q 4 76 154227 1122 (lw_L wX wM b i) [] := by
  refine g_iinc C 3 (u := nI (i + 7)) dL_law_1122 rfl (by rw [show Int32.ofInt 7 = nI 7 by decide +kernel]; exact nI_add i 7) (by decide) rfl ?_
  refine g_perm [1, 2, 3, 0] (lv' := lw_L wX wM b (i + 7)) rfl ?_
  exact g_goto C 18 dL_law_1125 (by decide) k
theorem lw_case (C : ih_Ok x wX A cL_law 4 RL wsL_law room_1 rr) (e1 : wM.1 = wX.1) (e2 : wM.2.1 = wX.2.1) (hX : va_X b L xs x.2.2.2.2.1 x.2.2.2.2.1.heap) (hbl : b < x.2.2.2.2.1.heap.size) (hbA : ¬ A b) (hL : L ≤ 3584) (hi : i + 7 ≤ L) (hI : ih_Inv T) (hRX : ih_RX SX T) (hRM : ih_RM SM T) (k : ∀ (SX' SM' : ih_Sg) (T' : ih_TT), ih_Inv T' → ih_RX SX' T' → ih_RM SM' T' → ih_Mg x (ih_P2 wX wM A SX' SM') A Q 4 76 154227 1122 (lw_L wX wM b i) []) : ih_Mg x (ih_P2 wX wM A SX SM) A Q 4 76 154227 27 (lw_L wX wM b i) [] := by
  refine g_aload_n C 0 dL_law_27 rfl ?_
  refine g_iload_n C 3 dL_law_28 rfl ?_
  refine g_scr C hX hbl hbA (by omega) (by omega) dL_law_29 ?_
  refine g_bipush C (v := nI 31) dL_law_30 (by decide +kernel) ?_
  refine g_iand C dL_law_32 ?_
  obtain ⟨j, hj, hje⟩ := pk_andE (xs i) (m := nI 31) 5 (by decide +kernel)
  rw [hje]
  by_cases h26 : j < 26
  · rcases (show j = 0 ∨ j = 1 ∨ j = 2 ∨ j = 3 ∨ j = 4 ∨ j = 5 ∨ j = 6 ∨ j = 7 ∨ j = 8 ∨ j = 9 ∨ j = 10 ∨ j = 11 ∨ j = 12 ∨ j = 13 ∨ j = 14 ∨ j = 15 ∨ j = 16 ∨ j = 17 ∨ j = 18 ∨ j = 19 ∨ j = 20 ∨ j = 21 ∨ j = 22 ∨ j = 23 ∨ j = 24 ∨ j = 25 by omega) with rfl | rfl | rfl | rfl | rfl | rfl | rfl | rfl | rfl | rfl | rfl | rfl | rfl | rfl | rfl | rfl | rfl | rfl | rfl | rfl | rfl | rfl | rfl | rfl | rfl | rfl
    · exact g_tableIn C (off := 119) 152 dL_law_33 (by decide +kernel) (by decide +kernel) (by decide +kernel) (by decide) (lc_sheet C e1 e2 hX hbl hbA hL hi hI hRX hRM k)
    · exact g_tableIn C (off := 162) 195 dL_law_33 (by decide +kernel) (by decide +kernel) (by decide +kernel) (by decide) (lc_set C e1 e2 hX hbl hbA hL hi hI hRX hRM k)
    · exact g_tableIn C (off := 205) 238 dL_law_33 (by decide +kernel) (by decide +kernel) (by decide +kernel) (by decide) (lc_copy C e1 e2 hX hbl hbA hL hi hI hRX hRM k)
    · exact g_tableIn C (off := 268) 301 dL_law_33 (by decide +kernel) (by decide +kernel) (by decide +kernel) (by decide) (lc_drop C e1 e2 hX hbl hbA hL hi hI hRX hRM k)
    · exact g_tableIn C (off := 291) 324 dL_law_33 (by decide +kernel) (by decide +kernel) (by decide +kernel) (by decide) (lc_behind C e1 e2 hX hbl hbA hL hi hI hRX hRM k)
    · exact g_tableIn C (off := 334) 367 dL_law_33 (by decide +kernel) (by decide +kernel) (by decide +kernel) (by decide) (lc_striker C e1 e2 hX hbl hbA hL hi hI hRX hRM k)
    · exact g_tableIn C (off := 409) 442 dL_law_33 (by decide +kernel) (by decide +kernel) (by decide +kernel) (by decide) (lc_train C e1 e2 hX hbl hbA hL hi hI hRX hRM k)
    · exact g_tableIn C (off := 452) 485 dL_law_33 (by decide +kernel) (by decide +kernel) (by decide +kernel) (by decide) (lc_chance C e1 e2 hX hbl hbA hL hi hI hRX hRM k)
    · exact g_tableIn C (off := 485) 518 dL_law_33 (by decide +kernel) (by decide +kernel) (by decide +kernel) (by decide) (lc_order C e1 e2 hX hbl hbA hL hi hI hRX hRM k)
    · exact g_tableIn C (off := 528) 561 dL_law_33 (by decide +kernel) (by decide +kernel) (by decide +kernel) (by decide) (lc_striking C e1 e2 hX hbl hbA hL hi hI hRX hRM k)
    · exact g_tableIn C (off := 551) 584 dL_law_33 (by decide +kernel) (by decide +kernel) (by decide +kernel) (by decide) (lc_mean C e1 e2 hX hbl hbA hL hi hI hRX hRM k)
    · exact g_tableIn C (off := 594) 627 dL_law_33 (by decide +kernel) (by decide +kernel) (by decide +kernel) (by decide) (lc_likely C e1 e2 hX hbl hbA hL hi hI hRX hRM k)
    · exact g_tableIn C (off := 647) 680 dL_law_33 (by decide +kernel) (by decide +kernel) (by decide +kernel) (by decide) (lc_worth C e1 e2 hX hbl hbA hL hi hI hRX hRM k)
    · exact g_tableIn C (off := 700) 733 dL_law_33 (by decide +kernel) (by decide +kernel) (by decide +kernel) (by decide) (lc_rate C e1 e2 hX hbl hbA hL hi hI hRX hRM k)
    · exact g_tableIn C (off := 713) 746 dL_law_33 (by decide +kernel) (by decide +kernel) (by decide +kernel) (by decide) (lc_swapped C e1 e2 hX hbl hbA hL hi hI hRX hRM k)
    · exact g_tableIn C (off := 726) 759 dL_law_33 (by decide +kernel) (by decide +kernel) (by decide +kernel) (by decide) (lc_best C e1 e2 hX hbl hbA hL hi hI hRX hRM k)
    · exact g_tableIn C (off := 739) 772 dL_law_33 (by decide +kernel) (by decide +kernel) (by decide +kernel) (by decide) (lc_team C e1 e2 hX hbl hbA hL hi hI hRX hRM k)
    · exact g_tableIn C (off := 772) 805 dL_law_33 (by decide +kernel) (by decide +kernel) (by decide +kernel) (by decide) (lc_game C e1 e2 hX hbl hbA hL hi hI hRX hRM k)
    · exact g_tableIn C (off := 835) 868 dL_law_33 (by decide +kernel) (by decide +kernel) (by decide +kernel) (by decide) (lc_log C e1 e2 hX hbl hbA hL hi hI hRX hRM k)
    · exact g_tableIn C (off := 888) 921 dL_law_33 (by decide +kernel) (by decide +kernel) (by decide +kernel) (by decide) (lc_learn C e1 e2 hX hbl hbA hL hi hI hRX hRM k)
    · exact g_tableIn C (off := 941) 974 dL_law_33 (by decide +kernel) (by decide +kernel) (by decide +kernel) (by decide) (lc_kind C e1 e2 hX hbl hbA hL hi hI hRX hRM k)
    · exact g_tableIn C (off := 964) 997 dL_law_33 (by decide +kernel) (by decide +kernel) (by decide +kernel) (by decide) (lc_as C e1 e2 hX hbl hbA hL hi hI hRX hRM k)
    · exact g_tableIn C (off := 997) 1030 dL_law_33 (by decide +kernel) (by decide +kernel) (by decide +kernel) (by decide) (lc_ask C e1 e2 hX hbl hbA hL hi hI hRX hRM k)
    · exact g_tableIn C (off := 1030) 1063 dL_law_33 (by decide +kernel) (by decide +kernel) (by decide +kernel) (by decide) (lc_trace C e1 e2 hX hbl hbA hL hi hI hRX hRM k)
    · exact g_tableIn C (off := 1053) 1086 dL_law_33 (by decide +kernel) (by decide +kernel) (by decide +kernel) (by decide) (lc_count C e1 e2 hX hbl hbA hL hi hI hRX hRM k)
    · exact g_tableIn C (off := 1076) 1109 dL_law_33 (by decide +kernel) (by decide +kernel) (by decide +kernel) (by decide) (lc_status C e1 e2 hX hbl hbA hL hi hI hRX hRM k)
  · refine g_tableOut C 1122 dL_law_33 (Or.inr ?_) (by decide) (k SX SM T hI hRX hRM)
    rw [nI_toInt (by omega)]
    omega
theorem lw_loop (C : ih_Ok x wX A cL_law 4 RL wsL_law room_1 rr) (e1 : wM.1 = wX.1) (e2 : wM.2.1 = wX.2.1) (hX : va_X b L xs x.2.2.2.2.1 x.2.2.2.2.1.heap) (hbl : b < x.2.2.2.2.1.heap.size) (hbA : ¬ A b) (hL : L ≤ 3584) (kt : ∀ (SX SM : ih_Sg) (i : Nat), ih_Mg x (ih_P2 wX wM A SX SM) A Q 4 76 154227 1128 (lw_L wX wM b i) []) : ∀ (fu i : Nat) (SX SM : ih_Sg) (T : ih_TT), L ≤ i + fu → i ≤ 3600 → ih_Inv T → ih_RX SX T → ih_RM SM T → ih_Mg x (ih_P2 wX wM A SX SM) A Q 4 76 154227 18 (lw_L wX wM b i) [] := by
  intro fu
  induction fu with
  | zero => exact fun i SX SM T hf hi hI hRX hRM => lw_head C e1 e2 hX hbl hbA hL (kt SX SM i) (by omega) (fun h => by omega)
  | succ fu ih =>
    intro i SX SM T hf hi hI hRX hRM
    refine lw_head C e1 e2 hX hbl hbA hL (kt SX SM i) (by omega) (fun h => ?_)
    refine lw_case C e1 e2 hX hbl hbA hL h hI hRX hRM (fun SX' SM' T' hI' hX' hM' => ?_)
    exact lw_tail C e1 e2 hX hbl hbA hL (ih (i + 7) SX' SM' T' (by omega) (by omega) hI' hX' hM')
end IhLawCase
