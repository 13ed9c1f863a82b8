/-! THE LAW'S CASES: written by gen_law.py -/
abbrev gb (Γ : Lx) : Nat := Γ.2.2.2.2.2.2.2.1
abbrev gw (Γ : Lx) : Wd := Γ.2.2.2.2.2.2.2.2.1
abbrev gO (Γ : Lx) : Wd := wO Γ.2.2.2.2.2.2.2.2.1 Γ.2.2.2.2.2.2.2.2.2.1
abbrev gq (Γ : Lx) : Launch := Γ.2.2.2.2.2.2.2.2.2.2.2
def lvL (Γ : Lx) (i : Nat) : List (Nat × Value) := [(3, .int (nI i)), (2, .ref (th (gO Γ) 0 0)), (1, .ref (th (gw Γ) 0 0)), (0, .ref (gb Γ))]
section CASES
variable {Γ : Lx} {n : Nat} {xs : Nat → Int32} {i : Nat} {M : Mm} {TM : Tm}
set_option maxHeartbeats 1000000 in
theorem k_thread (hO : LOk Γ n xs) (hn : n ≤ 2048) (hi : i + 4 ≤ n) (hr : Rel M TM) (kk : ∀ M' TM', Rel M' TM' → WL Γ 843 (lvL Γ i) [] M' TM') : WL Γ 148 (lvL Γ i) [] M TM := by
  obtain ⟨r, M', TM', e1, e2, hr'⟩ := op_thread (xs (i + 1)) (xs (i + 2)) M TM hr
  refine L_aload_n hO 2 dL_law_148 rfl rfl ?_
  refine L_aload_n hO 3 dL_law_149 rfl rfl ?_
  refine L_iload_n hO 0 dL_law_150 rfl rfl ?_
  refine L_iconst hO 1 dL_law_151 (by decide) ?_
  refine L_iadd hO dL_law_152 ?_
  refine L_sld hO rfl (j := i + 1) (nI_p1 i) (by omega) hn dL_law_153 ?_
  refine L_aload_n hO 3 dL_law_154 rfl rfl ?_
  refine L_iload_n hO 0 dL_law_155 rfl rfl ?_
  refine L_iconst hO 2 dL_law_156 (by decide) ?_
  refine L_iadd hO dL_law_157 ?_
  refine L_sld hO rfl (j := i + 2) (nI_p2 i) (by omega) hn dL_law_158 ?_
  refine L_callC hO (As := [.int (xs (i + 1)), .int (xs (i + 2))]) (c_X5_thread (gq Γ) (gw Γ) M _ _ e1) 2 rfl gL_law_X5_thread rfl rfl rfl (by decide +kernel) ⟨by decide, by decide⟩ rfl (Nat.le_of_ble_eq_true rfl) dL_law_159 ?_
  refine L_aload_n hO 1 dL_law_162 rfl rfl ?_
  refine L_aload_n hO 3 dL_law_163 rfl rfl ?_
  refine L_iload_n hO 0 dL_law_164 rfl rfl ?_
  refine L_iconst hO 1 dL_law_165 (by decide) ?_
  refine L_iadd hO dL_law_166 ?_
  refine L_sld hO rfl (j := i + 1) (nI_p1 i) (by omega) hn dL_law_167 ?_
  refine L_aload_n hO 3 dL_law_168 rfl rfl ?_
  refine L_iload_n hO 0 dL_law_169 rfl rfl ?_
  refine L_iconst hO 2 dL_law_170 (by decide) ?_
  refine L_iadd hO dL_law_171 ?_
  refine L_sld hO rfl (j := i + 2) (nI_p2 i) (by omega) hn dL_law_172 ?_
  refine L_callM hO (As := [.int (xs (i + 1)), .int (xs (i + 2))]) (c_X6_thread (gq Γ) (gO Γ) M00 TM _ _ e2) 2 rfl gL_law_X6_thread rfl rfl rfl (by decide +kernel) ⟨by decide, by decide⟩ rfl (Nat.le_of_ble_eq_true rfl) dL_law_173 ?_
  refine L_icmp_eq hO 843 dL_law_176 rfl ?_
  exact kk M' TM' hr'
set_option maxHeartbeats 1000000 in
theorem k_give (hO : LOk Γ n xs) (hn : n ≤ 2048) (hi : i + 4 ≤ n) (hr : Rel M TM) (kk : ∀ M' TM', Rel M' TM' → WL Γ 843 (lvL Γ i) [] M' TM') : WL Γ 181 (lvL Γ i) [] M TM := by
  obtain ⟨r, M', TM', e1, e2, hr'⟩ := op_give (xs (i + 1)) (xs (i + 2)) M TM hr
  refine L_aload_n hO 2 dL_law_181 rfl rfl ?_
  refine L_aload_n hO 3 dL_law_182 rfl rfl ?_
  refine L_iload_n hO 0 dL_law_183 rfl rfl ?_
  refine L_iconst hO 1 dL_law_184 (by decide) ?_
  refine L_iadd hO dL_law_185 ?_
  refine L_sld hO rfl (j := i + 1) (nI_p1 i) (by omega) hn dL_law_186 ?_
  refine L_aload_n hO 3 dL_law_187 rfl rfl ?_
  refine L_iload_n hO 0 dL_law_188 rfl rfl ?_
  refine L_iconst hO 2 dL_law_189 (by decide) ?_
  refine L_iadd hO dL_law_190 ?_
  refine L_sld hO rfl (j := i + 2) (nI_p2 i) (by omega) hn dL_law_191 ?_
  refine L_callC hO (As := [.int (xs (i + 1)), .int (xs (i + 2))]) (c_X5_give (gq Γ) (gw Γ) M _ _ e1) 2 rfl gL_law_X5_give rfl rfl rfl (by decide +kernel) ⟨by decide, by decide⟩ rfl (Nat.le_of_ble_eq_true rfl) dL_law_192 ?_
  refine L_aload_n hO 1 dL_law_195 rfl rfl ?_
  refine L_aload_n hO 3 dL_law_196 rfl rfl ?_
  refine L_iload_n hO 0 dL_law_197 rfl rfl ?_
  refine L_iconst hO 1 dL_law_198 (by decide) ?_
  refine L_iadd hO dL_law_199 ?_
  refine L_sld hO rfl (j := i + 1) (nI_p1 i) (by omega) hn dL_law_200 ?_
  refine L_aload_n hO 3 dL_law_201 rfl rfl ?_
  refine L_iload_n hO 0 dL_law_202 rfl rfl ?_
  refine L_iconst hO 2 dL_law_203 (by decide) ?_
  refine L_iadd hO dL_law_204 ?_
  refine L_sld hO rfl (j := i + 2) (nI_p2 i) (by omega) hn dL_law_205 ?_
  refine L_callM hO (As := [.int (xs (i + 1)), .int (xs (i + 2))]) (c_X6_give (gq Γ) (gO Γ) M00 TM _ _ e2) 2 rfl gL_law_X6_give rfl rfl rfl (by decide +kernel) ⟨by decide, by decide⟩ rfl (Nat.le_of_ble_eq_true rfl) dL_law_206 ?_
  refine L_icmp_eq hO 843 dL_law_209 rfl ?_
  exact kk M' TM' hr'
set_option maxHeartbeats 1000000 in
theorem k_strike (hO : LOk Γ n xs) (hn : n ≤ 2048) (hi : i + 4 ≤ n) (hr : Rel M TM) (kk : ∀ M' TM', Rel M' TM' → WL Γ 843 (lvL Γ i) [] M' TM') : WL Γ 214 (lvL Γ i) [] M TM := by
  obtain ⟨r, M', TM', e1, e2, hr'⟩ := op_strike (xs (i + 1)) (xs (i + 2)) (xs (i + 3)) M TM hr
  refine L_aload_n hO 2 dL_law_214 rfl rfl ?_
  refine L_aload_n hO 3 dL_law_215 rfl rfl ?_
  refine L_iload_n hO 0 dL_law_216 rfl rfl ?_
  refine L_iconst hO 1 dL_law_217 (by decide) ?_
  refine L_iadd hO dL_law_218 ?_
  refine L_sld hO rfl (j := i + 1) (nI_p1 i) (by omega) hn dL_law_219 ?_
  refine L_aload_n hO 3 dL_law_220 rfl rfl ?_
  refine L_iload_n hO 0 dL_law_221 rfl rfl ?_
  refine L_iconst hO 2 dL_law_222 (by decide) ?_
  refine L_iadd hO dL_law_223 ?_
  refine L_sld hO rfl (j := i + 2) (nI_p2 i) (by omega) hn dL_law_224 ?_
  refine L_aload_n hO 3 dL_law_225 rfl rfl ?_
  refine L_iload_n hO 0 dL_law_226 rfl rfl ?_
  refine L_iconst hO 3 dL_law_227 (by decide) ?_
  refine L_iadd hO dL_law_228 ?_
  refine L_sld hO rfl (j := i + 3) (nI_p3 i) (by omega) hn dL_law_229 ?_
  refine L_callC hO (As := [.int (xs (i + 1)), .int (xs (i + 2)), .int (xs (i + 3))]) (c_X5_strike (gq Γ) (gw Γ) M _ _ _ e1) 3 rfl gL_law_X5_strike rfl rfl rfl (by decide +kernel) ⟨by decide, by decide⟩ rfl (Nat.le_of_ble_eq_true rfl) dL_law_230 ?_
  refine L_aload_n hO 1 dL_law_233 rfl rfl ?_
  refine L_aload_n hO 3 dL_law_234 rfl rfl ?_
  refine L_iload_n hO 0 dL_law_235 rfl rfl ?_
  refine L_iconst hO 1 dL_law_236 (by decide) ?_
  refine L_iadd hO dL_law_237 ?_
  refine L_sld hO rfl (j := i + 1) (nI_p1 i) (by omega) hn dL_law_238 ?_
  refine L_aload_n hO 3 dL_law_239 rfl rfl ?_
  refine L_iload_n hO 0 dL_law_240 rfl rfl ?_
  refine L_iconst hO 2 dL_law_241 (by decide) ?_
  refine L_iadd hO dL_law_242 ?_
  refine L_sld hO rfl (j := i + 2) (nI_p2 i) (by omega) hn dL_law_243 ?_
  refine L_aload_n hO 3 dL_law_244 rfl rfl ?_
  refine L_iload_n hO 0 dL_law_245 rfl rfl ?_
  refine L_iconst hO 3 dL_law_246 (by decide) ?_
  refine L_iadd hO dL_law_247 ?_
  refine L_sld hO rfl (j := i + 3) (nI_p3 i) (by omega) hn dL_law_248 ?_
  refine L_callM hO (As := [.int (xs (i + 1)), .int (xs (i + 2)), .int (xs (i + 3))]) (c_X6_strike (gq Γ) (gO Γ) M00 TM _ _ _ e2) 3 rfl gL_law_X6_strike rfl rfl rfl (by decide +kernel) ⟨by decide, by decide⟩ rfl (Nat.le_of_ble_eq_true rfl) dL_law_249 ?_
  refine L_icmp_eq hO 843 dL_law_252 rfl ?_
  exact kk M' TM' hr'
set_option maxHeartbeats 1000000 in
theorem k_mend (hO : LOk Γ n xs) (hn : n ≤ 2048) (hi : i + 4 ≤ n) (hr : Rel M TM) (kk : ∀ M' TM', Rel M' TM' → WL Γ 843 (lvL Γ i) [] M' TM') : WL Γ 257 (lvL Γ i) [] M TM := by
  obtain ⟨r, M', TM', e1, e2, hr'⟩ := op_mend (xs (i + 1)) M TM hr
  refine L_aload_n hO 2 dL_law_257 rfl rfl ?_
  refine L_aload_n hO 3 dL_law_258 rfl rfl ?_
  refine L_iload_n hO 0 dL_law_259 rfl rfl ?_
  refine L_iconst hO 1 dL_law_260 (by decide) ?_
  refine L_iadd hO dL_law_261 ?_
  refine L_sld hO rfl (j := i + 1) (nI_p1 i) (by omega) hn dL_law_262 ?_
  refine L_callC hO (As := [.int (xs (i + 1))]) (c_X5_mend (gq Γ) (gw Γ) M _ e1) 1 rfl gL_law_X5_mend rfl rfl rfl (by decide +kernel) ⟨by decide, by decide⟩ rfl (Nat.le_of_ble_eq_true rfl) dL_law_263 ?_
  refine L_aload_n hO 1 dL_law_266 rfl rfl ?_
  refine L_aload_n hO 3 dL_law_267 rfl rfl ?_
  refine L_iload_n hO 0 dL_law_268 rfl rfl ?_
  refine L_iconst hO 1 dL_law_269 (by decide) ?_
  refine L_iadd hO dL_law_270 ?_
  refine L_sld hO rfl (j := i + 1) (nI_p1 i) (by omega) hn dL_law_271 ?_
  refine L_callM hO (As := [.int (xs (i + 1))]) (c_X6_mend (gq Γ) (gO Γ) M00 TM _ e2) 1 rfl gL_law_X6_mend rfl rfl rfl (by decide +kernel) ⟨by decide, by decide⟩ rfl (Nat.le_of_ble_eq_true rfl) dL_law_272 ?_
  refine L_icmp_eq hO 843 dL_law_275 rfl ?_
  exact kk M' TM' hr'
set_option maxHeartbeats 1000000 in
theorem k_stamp (hO : LOk Γ n xs) (hn : n ≤ 2048) (hi : i + 4 ≤ n) (hr : Rel M TM) (kk : ∀ M' TM', Rel M' TM' → WL Γ 843 (lvL Γ i) [] M' TM') : WL Γ 280 (lvL Γ i) [] M TM := by
  obtain ⟨r, M', TM', e1, e2, hr'⟩ := op_stamp (xs (i + 1)) M TM hr
  refine L_aload_n hO 2 dL_law_280 rfl rfl ?_
  refine L_aload_n hO 3 dL_law_281 rfl rfl ?_
  refine L_iload_n hO 0 dL_law_282 rfl rfl ?_
  refine L_iconst hO 1 dL_law_283 (by decide) ?_
  refine L_iadd hO dL_law_284 ?_
  refine L_sld hO rfl (j := i + 1) (nI_p1 i) (by omega) hn dL_law_285 ?_
  refine L_callC hO (As := [.int (xs (i + 1))]) (c_X5_stamp (gq Γ) (gw Γ) M _ e1) 1 rfl gL_law_X5_stamp rfl rfl rfl (by decide +kernel) ⟨by decide, by decide⟩ rfl (Nat.le_of_ble_eq_true rfl) dL_law_286 ?_
  refine L_aload_n hO 1 dL_law_289 rfl rfl ?_
  refine L_aload_n hO 3 dL_law_290 rfl rfl ?_
  refine L_iload_n hO 0 dL_law_291 rfl rfl ?_
  refine L_iconst hO 1 dL_law_292 (by decide) ?_
  refine L_iadd hO dL_law_293 ?_
  refine L_sld hO rfl (j := i + 1) (nI_p1 i) (by omega) hn dL_law_294 ?_
  refine L_callM hO (As := [.int (xs (i + 1))]) (c_X6_stamp (gq Γ) (gO Γ) M00 TM _ e2) 1 rfl gL_law_X6_stamp rfl rfl rfl (by decide +kernel) ⟨by decide, by decide⟩ rfl (Nat.le_of_ble_eq_true rfl) dL_law_295 ?_
  refine L_icmp_eq hO 843 dL_law_298 rfl ?_
  exact kk M' TM' hr'
set_option maxHeartbeats 1000000 in
theorem k_boast (hO : LOk Γ n xs) (hn : n ≤ 2048) (hi : i + 4 ≤ n) (hr : Rel M TM) (kk : ∀ M' TM', Rel M' TM' → WL Γ 843 (lvL Γ i) [] M' TM') : WL Γ 303 (lvL Γ i) [] M TM := by
  obtain ⟨r, M', TM', e1, e2, hr'⟩ := op_boast (xs (i + 1)) (xs (i + 2)) M TM hr
  refine L_aload_n hO 2 dL_law_303 rfl rfl ?_
  refine L_aload_n hO 3 dL_law_304 rfl rfl ?_
  refine L_iload_n hO 0 dL_law_305 rfl rfl ?_
  refine L_iconst hO 1 dL_law_306 (by decide) ?_
  refine L_iadd hO dL_law_307 ?_
  refine L_sld hO rfl (j := i + 1) (nI_p1 i) (by omega) hn dL_law_308 ?_
  refine L_aload_n hO 3 dL_law_309 rfl rfl ?_
  refine L_iload_n hO 0 dL_law_310 rfl rfl ?_
  refine L_iconst hO 2 dL_law_311 (by decide) ?_
  refine L_iadd hO dL_law_312 ?_
  refine L_sld hO rfl (j := i + 2) (nI_p2 i) (by omega) hn dL_law_313 ?_
  refine L_callC hO (As := [.int (xs (i + 1)), .int (xs (i + 2))]) (c_X5_boast (gq Γ) (gw Γ) M _ _ e1) 2 rfl gL_law_X5_boast rfl rfl rfl (by decide +kernel) ⟨by decide, by decide⟩ rfl (Nat.le_of_ble_eq_true rfl) dL_law_314 ?_
  refine L_aload_n hO 1 dL_law_317 rfl rfl ?_
  refine L_aload_n hO 3 dL_law_318 rfl rfl ?_
  refine L_iload_n hO 0 dL_law_319 rfl rfl ?_
  refine L_iconst hO 1 dL_law_320 (by decide) ?_
  refine L_iadd hO dL_law_321 ?_
  refine L_sld hO rfl (j := i + 1) (nI_p1 i) (by omega) hn dL_law_322 ?_
  refine L_aload_n hO 3 dL_law_323 rfl rfl ?_
  refine L_iload_n hO 0 dL_law_324 rfl rfl ?_
  refine L_iconst hO 2 dL_law_325 (by decide) ?_
  refine L_iadd hO dL_law_326 ?_
  refine L_sld hO rfl (j := i + 2) (nI_p2 i) (by omega) hn dL_law_327 ?_
  refine L_callM hO (As := [.int (xs (i + 1)), .int (xs (i + 2))]) (c_X6_boast (gq Γ) (gO Γ) M00 TM _ _ e2) 2 rfl gL_law_X6_boast rfl rfl rfl (by decide +kernel) ⟨by decide, by decide⟩ rfl (Nat.le_of_ble_eq_true rfl) dL_law_328 ?_
  refine L_icmp_eq hO 843 dL_law_331 rfl ?_
  exact kk M' TM' hr'
set_option maxHeartbeats 1000000 in
theorem k_doubt (hO : LOk Γ n xs) (hn : n ≤ 2048) (hi : i + 4 ≤ n) (hr : Rel M TM) (kk : ∀ M' TM', Rel M' TM' → WL Γ 843 (lvL Γ i) [] M' TM') : WL Γ 336 (lvL Γ i) [] M TM := by
  obtain ⟨r, M', TM', e1, e2, hr'⟩ := op_doubt (xs (i + 1)) (xs (i + 2)) M TM hr
  refine L_aload_n hO 2 dL_law_336 rfl rfl ?_
  refine L_aload_n hO 3 dL_law_337 rfl rfl ?_
  refine L_iload_n hO 0 dL_law_338 rfl rfl ?_
  refine L_iconst hO 1 dL_law_339 (by decide) ?_
  refine L_iadd hO dL_law_340 ?_
  refine L_sld hO rfl (j := i + 1) (nI_p1 i) (by omega) hn dL_law_341 ?_
  refine L_aload_n hO 3 dL_law_342 rfl rfl ?_
  refine L_iload_n hO 0 dL_law_343 rfl rfl ?_
  refine L_iconst hO 2 dL_law_344 (by decide) ?_
  refine L_iadd hO dL_law_345 ?_
  refine L_sld hO rfl (j := i + 2) (nI_p2 i) (by omega) hn dL_law_346 ?_
  refine L_callC hO (As := [.int (xs (i + 1)), .int (xs (i + 2))]) (c_X5_doubt (gq Γ) (gw Γ) M _ _ e1) 2 rfl gL_law_X5_doubt rfl rfl rfl (by decide +kernel) ⟨by decide, by decide⟩ rfl (Nat.le_of_ble_eq_true rfl) dL_law_347 ?_
  refine L_aload_n hO 1 dL_law_350 rfl rfl ?_
  refine L_aload_n hO 3 dL_law_351 rfl rfl ?_
  refine L_iload_n hO 0 dL_law_352 rfl rfl ?_
  refine L_iconst hO 1 dL_law_353 (by decide) ?_
  refine L_iadd hO dL_law_354 ?_
  refine L_sld hO rfl (j := i + 1) (nI_p1 i) (by omega) hn dL_law_355 ?_
  refine L_aload_n hO 3 dL_law_356 rfl rfl ?_
  refine L_iload_n hO 0 dL_law_357 rfl rfl ?_
  refine L_iconst hO 2 dL_law_358 (by decide) ?_
  refine L_iadd hO dL_law_359 ?_
  refine L_sld hO rfl (j := i + 2) (nI_p2 i) (by omega) hn dL_law_360 ?_
  refine L_callM hO (As := [.int (xs (i + 1)), .int (xs (i + 2))]) (c_X6_doubt (gq Γ) (gO Γ) M00 TM _ _ e2) 2 rfl gL_law_X6_doubt rfl rfl rfl (by decide +kernel) ⟨by decide, by decide⟩ rfl (Nat.le_of_ble_eq_true rfl) dL_law_361 ?_
  refine L_icmp_eq hO 843 dL_law_364 rfl ?_
  exact kk M' TM' hr'
set_option maxHeartbeats 1000000 in
theorem k_bout (hO : LOk Γ n xs) (hn : n ≤ 2048) (hi : i + 4 ≤ n) (hr : Rel M TM) (kk : ∀ M' TM', Rel M' TM' → WL Γ 843 (lvL Γ i) [] M' TM') : WL Γ 369 (lvL Γ i) [] M TM := by
  obtain ⟨r, M', TM', e1, e2, hr'⟩ := op_bout (xs (i + 1)) (xs (i + 2)) (xs (i + 3)) M TM hr
  refine L_aload_n hO 2 dL_law_369 rfl rfl ?_
  refine L_aload_n hO 3 dL_law_370 rfl rfl ?_
  refine L_iload_n hO 0 dL_law_371 rfl rfl ?_
  refine L_iconst hO 1 dL_law_372 (by decide) ?_
  refine L_iadd hO dL_law_373 ?_
  refine L_sld hO rfl (j := i + 1) (nI_p1 i) (by omega) hn dL_law_374 ?_
  refine L_aload_n hO 3 dL_law_375 rfl rfl ?_
  refine L_iload_n hO 0 dL_law_376 rfl rfl ?_
  refine L_iconst hO 2 dL_law_377 (by decide) ?_
  refine L_iadd hO dL_law_378 ?_
  refine L_sld hO rfl (j := i + 2) (nI_p2 i) (by omega) hn dL_law_379 ?_
  refine L_aload_n hO 3 dL_law_380 rfl rfl ?_
  refine L_iload_n hO 0 dL_law_381 rfl rfl ?_
  refine L_iconst hO 3 dL_law_382 (by decide) ?_
  refine L_iadd hO dL_law_383 ?_
  refine L_sld hO rfl (j := i + 3) (nI_p3 i) (by omega) hn dL_law_384 ?_
  refine L_callC hO (As := [.int (xs (i + 1)), .int (xs (i + 2)), .int (xs (i + 3))]) (c_X5_bout (gq Γ) (gw Γ) M _ _ _ e1) 3 rfl gL_law_X5_bout rfl rfl rfl (by decide +kernel) ⟨by decide, by decide⟩ rfl (Nat.le_of_ble_eq_true rfl) dL_law_385 ?_
  refine L_aload_n hO 1 dL_law_388 rfl rfl ?_
  refine L_aload_n hO 3 dL_law_389 rfl rfl ?_
  refine L_iload_n hO 0 dL_law_390 rfl rfl ?_
  refine L_iconst hO 1 dL_law_391 (by decide) ?_
  refine L_iadd hO dL_law_392 ?_
  refine L_sld hO rfl (j := i + 1) (nI_p1 i) (by omega) hn dL_law_393 ?_
  refine L_aload_n hO 3 dL_law_394 rfl rfl ?_
  refine L_iload_n hO 0 dL_law_395 rfl rfl ?_
  refine L_iconst hO 2 dL_law_396 (by decide) ?_
  refine L_iadd hO dL_law_397 ?_
  refine L_sld hO rfl (j := i + 2) (nI_p2 i) (by omega) hn dL_law_398 ?_
  refine L_aload_n hO 3 dL_law_399 rfl rfl ?_
  refine L_iload_n hO 0 dL_law_400 rfl rfl ?_
  refine L_iconst hO 3 dL_law_401 (by decide) ?_
  refine L_iadd hO dL_law_402 ?_
  refine L_sld hO rfl (j := i + 3) (nI_p3 i) (by omega) hn dL_law_403 ?_
  refine L_callM hO (As := [.int (xs (i + 1)), .int (xs (i + 2)), .int (xs (i + 3))]) (c_X6_bout (gq Γ) (gO Γ) M00 TM _ _ _ e2) 3 rfl gL_law_X6_bout rfl rfl rfl (by decide +kernel) ⟨by decide, by decide⟩ rfl (Nat.le_of_ble_eq_true rfl) dL_law_404 ?_
  refine L_icmp_eq hO 843 dL_law_407 rfl ?_
  exact kk M' TM' hr'
set_option maxHeartbeats 1000000 in
theorem k_round (hO : LOk Γ n xs) (hn : n ≤ 2048) (hi : i + 4 ≤ n) (hr : Rel M TM) (kk : ∀ M' TM', Rel M' TM' → WL Γ 843 (lvL Γ i) [] M' TM') : WL Γ 412 (lvL Γ i) [] M TM := by
  obtain ⟨r, M', TM', e1, e2, hr'⟩ := op_round (xs (i + 1)) M TM hr
  refine L_aload_n hO 2 dL_law_412 rfl rfl ?_
  refine L_aload_n hO 3 dL_law_413 rfl rfl ?_
  refine L_iload_n hO 0 dL_law_414 rfl rfl ?_
  refine L_iconst hO 1 dL_law_415 (by decide) ?_
  refine L_iadd hO dL_law_416 ?_
  refine L_sld hO rfl (j := i + 1) (nI_p1 i) (by omega) hn dL_law_417 ?_
  refine L_callC hO (As := [.int (xs (i + 1))]) (c_X5_round (gq Γ) (gw Γ) M _ e1) 1 rfl gL_law_X5_round rfl rfl rfl (by decide +kernel) ⟨by decide, by decide⟩ rfl (Nat.le_of_ble_eq_true rfl) dL_law_418 ?_
  refine L_aload_n hO 1 dL_law_421 rfl rfl ?_
  refine L_aload_n hO 3 dL_law_422 rfl rfl ?_
  refine L_iload_n hO 0 dL_law_423 rfl rfl ?_
  refine L_iconst hO 1 dL_law_424 (by decide) ?_
  refine L_iadd hO dL_law_425 ?_
  refine L_sld hO rfl (j := i + 1) (nI_p1 i) (by omega) hn dL_law_426 ?_
  refine L_callM hO (As := [.int (xs (i + 1))]) (c_X6_round (gq Γ) (gO Γ) M00 TM _ e2) 1 rfl gL_law_X6_round rfl rfl rfl (by decide +kernel) ⟨by decide, by decide⟩ rfl (Nat.le_of_ble_eq_true rfl) dL_law_427 ?_
  refine L_icmp_eq hO 843 dL_law_430 rfl ?_
  exact kk M' TM' hr'
set_option maxHeartbeats 1000000 in
theorem k_append (hO : LOk Γ n xs) (hn : n ≤ 2048) (hi : i + 4 ≤ n) (hr : Rel M TM) (kk : ∀ M' TM', Rel M' TM' → WL Γ 843 (lvL Γ i) [] M' TM') : WL Γ 435 (lvL Γ i) [] M TM := by
  obtain ⟨r, M', TM', e1, e2, hr'⟩ := op_append (xs (i + 1)) M TM hr
  refine L_aload_n hO 2 dL_law_435 rfl rfl ?_
  refine L_aload_n hO 3 dL_law_436 rfl rfl ?_
  refine L_iload_n hO 0 dL_law_437 rfl rfl ?_
  refine L_iconst hO 1 dL_law_438 (by decide) ?_
  refine L_iadd hO dL_law_439 ?_
  refine L_sld hO rfl (j := i + 1) (nI_p1 i) (by omega) hn dL_law_440 ?_
  refine L_callC hO (As := [.int (xs (i + 1))]) (c_X5_append (gq Γ) (gw Γ) M _ e1) 1 rfl gL_law_X5_append rfl rfl rfl (by decide +kernel) ⟨by decide, by decide⟩ rfl (Nat.le_of_ble_eq_true rfl) dL_law_441 ?_
  refine L_aload_n hO 1 dL_law_444 rfl rfl ?_
  refine L_aload_n hO 3 dL_law_445 rfl rfl ?_
  refine L_iload_n hO 0 dL_law_446 rfl rfl ?_
  refine L_iconst hO 1 dL_law_447 (by decide) ?_
  refine L_iadd hO dL_law_448 ?_
  refine L_sld hO rfl (j := i + 1) (nI_p1 i) (by omega) hn dL_law_449 ?_
  refine L_callM hO (As := [.int (xs (i + 1))]) (c_X6_append (gq Γ) (gO Γ) M00 TM _ e2) 1 rfl gL_law_X6_append rfl rfl rfl (by decide +kernel) ⟨by decide, by decide⟩ rfl (Nat.le_of_ble_eq_true rfl) dL_law_450 ?_
  refine L_icmp_eq hO 843 dL_law_453 rfl ?_
  exact kk M' TM' hr'
set_option maxHeartbeats 1000000 in
theorem k_clearText (hO : LOk Γ n xs) (hn : n ≤ 2048) (hi : i + 4 ≤ n) (hr : Rel M TM) (kk : ∀ M' TM', Rel M' TM' → WL Γ 843 (lvL Γ i) [] M' TM') : WL Γ 458 (lvL Γ i) [] M TM := by
  obtain ⟨r, M', TM', e1, e2, hr'⟩ := op_clearText M TM hr
  refine L_aload_n hO 2 dL_law_458 rfl rfl ?_
  refine L_callC hO (As := []) (c_X5_clearText (gq Γ) (gw Γ) M e1) 0 rfl gL_law_X5_clearText rfl rfl rfl (by decide +kernel) ⟨by decide, by decide⟩ rfl (Nat.le_of_ble_eq_true rfl) dL_law_459 ?_
  refine L_aload_n hO 1 dL_law_462 rfl rfl ?_
  refine L_callM hO (As := []) (c_X6_clearText (gq Γ) (gO Γ) M00 TM e2) 0 rfl gL_law_X6_clearText rfl rfl rfl (by decide +kernel) ⟨by decide, by decide⟩ rfl (Nat.le_of_ble_eq_true rfl) dL_law_463 ?_
  refine L_icmp_eq hO 843 dL_law_466 rfl ?_
  exact kk M' TM' hr'
set_option maxHeartbeats 1000000 in
theorem k_fault (hO : LOk Γ n xs) (hn : n ≤ 2048) (hi : i + 4 ≤ n) (hr : Rel M TM) (kk : ∀ M' TM', Rel M' TM' → WL Γ 843 (lvL Γ i) [] M' TM') : WL Γ 471 (lvL Γ i) [] M TM := by
  obtain ⟨r, M', TM', e1, e2, hr'⟩ := op_fault M TM hr
  refine L_aload_n hO 2 dL_law_471 rfl rfl ?_
  refine L_callC hO (As := []) (c_X5_fault (gq Γ) (gw Γ) M e1) 0 rfl gL_law_X5_fault rfl rfl rfl (by decide +kernel) ⟨by decide, by decide⟩ rfl (Nat.le_of_ble_eq_true rfl) dL_law_472 ?_
  refine L_aload_n hO 1 dL_law_475 rfl rfl ?_
  refine L_callM hO (As := []) (c_X6_fault (gq Γ) (gO Γ) M00 TM e2) 0 rfl gL_law_X6_fault rfl rfl rfl (by decide +kernel) ⟨by decide, by decide⟩ rfl (Nat.le_of_ble_eq_true rfl) dL_law_476 ?_
  refine L_icmp_eq hO 843 dL_law_479 rfl ?_
  exact kk M' TM' hr'
set_option maxHeartbeats 1000000 in
theorem k_run (hO : LOk Γ n xs) (hn : n ≤ 2048) (hi : i + 4 ≤ n) (hr : Rel M TM) (kk : ∀ M' TM', Rel M' TM' → WL Γ 843 (lvL Γ i) [] M' TM') : WL Γ 484 (lvL Γ i) [] M TM := by
  obtain ⟨r, M', TM', e1, e2, hr'⟩ := op_run M TM hr
  refine L_aload_n hO 2 dL_law_484 rfl rfl ?_
  refine L_callC hO (As := []) (c_X5_run (gq Γ) (gw Γ) M e1) 0 rfl gL_law_X5_run rfl rfl rfl (by decide +kernel) ⟨by decide, by decide⟩ rfl (Nat.le_of_ble_eq_true rfl) dL_law_485 ?_
  refine L_aload_n hO 1 dL_law_488 rfl rfl ?_
  refine L_callM hO (As := []) (c_X6_run (gq Γ) (gO Γ) M00 TM e2) 0 rfl gL_law_X6_run rfl rfl rfl (by decide +kernel) ⟨by decide, by decide⟩ rfl (Nat.le_of_ble_eq_true rfl) dL_law_489 ?_
  refine L_icmp_eq hO 843 dL_law_492 rfl ?_
  exact kk M' TM' hr'
set_option maxHeartbeats 1000000 in
theorem k_undo (hO : LOk Γ n xs) (hn : n ≤ 2048) (hi : i + 4 ≤ n) (hr : Rel M TM) (kk : ∀ M' TM', Rel M' TM' → WL Γ 843 (lvL Γ i) [] M' TM') : WL Γ 497 (lvL Γ i) [] M TM := by
  obtain ⟨r, M', TM', e1, e2, hr'⟩ := op_undo M TM hr
  refine L_aload_n hO 2 dL_law_497 rfl rfl ?_
  refine L_callC hO (As := []) (c_X5_undo (gq Γ) (gw Γ) M e1) 0 rfl gL_law_X5_undo rfl rfl rfl (by decide +kernel) ⟨by decide, by decide⟩ rfl (Nat.le_of_ble_eq_true rfl) dL_law_498 ?_
  refine L_aload_n hO 1 dL_law_501 rfl rfl ?_
  refine L_callM hO (As := []) (c_X6_undo (gq Γ) (gO Γ) M00 TM e2) 0 rfl gL_law_X6_undo rfl rfl rfl (by decide +kernel) ⟨by decide, by decide⟩ rfl (Nat.le_of_ble_eq_true rfl) dL_law_502 ?_
  refine L_icmp_eq hO 843 dL_law_505 rfl ?_
  exact kk M' TM' hr'
set_option maxHeartbeats 1000000 in
theorem k_save (hO : LOk Γ n xs) (hn : n ≤ 2048) (hi : i + 4 ≤ n) (hr : Rel M TM) (kk : ∀ M' TM', Rel M' TM' → WL Γ 843 (lvL Γ i) [] M' TM') : WL Γ 510 (lvL Γ i) [] M TM := by
  obtain ⟨r, M', TM', e1, e2, hr'⟩ := op_save M TM hr
  refine L_aload_n hO 2 dL_law_510 rfl rfl ?_
  refine L_callC hO (As := []) (c_X5_save (gq Γ) (gw Γ) M e1) 0 rfl gL_law_X5_save rfl rfl rfl (by decide +kernel) ⟨by decide, by decide⟩ rfl (Nat.le_of_ble_eq_true rfl) dL_law_511 ?_
  refine L_aload_n hO 1 dL_law_514 rfl rfl ?_
  refine L_callM hO (As := []) (c_X6_save (gq Γ) (gO Γ) M00 TM e2) 0 rfl gL_law_X6_save rfl rfl rfl (by decide +kernel) ⟨by decide, by decide⟩ rfl (Nat.le_of_ble_eq_true rfl) dL_law_515 ?_
  refine L_icmp_eq hO 843 dL_law_518 rfl ?_
  exact kk M' TM' hr'
set_option maxHeartbeats 1000000 in
theorem k_restore (hO : LOk Γ n xs) (hn : n ≤ 2048) (hi : i + 4 ≤ n) (hr : Rel M TM) (kk : ∀ M' TM', Rel M' TM' → WL Γ 843 (lvL Γ i) [] M' TM') : WL Γ 523 (lvL Γ i) [] M TM := by
  obtain ⟨r, M', TM', e1, e2, hr'⟩ := op_restore M TM hr
  refine L_aload_n hO 2 dL_law_523 rfl rfl ?_
  refine L_callC hO (As := []) (c_X5_restore (gq Γ) (gw Γ) M e1) 0 rfl gL_law_X5_restore rfl rfl rfl (by decide +kernel) ⟨by decide, by decide⟩ rfl (Nat.le_of_ble_eq_true rfl) dL_law_524 ?_
  refine L_aload_n hO 1 dL_law_527 rfl rfl ?_
  refine L_callM hO (As := []) (c_X6_restore (gq Γ) (gO Γ) M00 TM e2) 0 rfl gL_law_X6_restore rfl rfl rfl (by decide +kernel) ⟨by decide, by decide⟩ rfl (Nat.le_of_ble_eq_true rfl) dL_law_528 ?_
  refine L_icmp_eq hO 843 dL_law_531 rfl ?_
  exact kk M' TM' hr'
set_option maxHeartbeats 1000000 in
theorem k_conker (hO : LOk Γ n xs) (hn : n ≤ 2048) (hi : i + 4 ≤ n) (hr : Rel M TM) (kk : ∀ M' TM', Rel M' TM' → WL Γ 843 (lvL Γ i) [] M' TM') : WL Γ 536 (lvL Γ i) [] M TM := by
  obtain ⟨r, M', TM', e1, e2, hr'⟩ := op_conker (xs (i + 1)) (xs (i + 2)) M TM hr
  refine L_aload_n hO 2 dL_law_536 rfl rfl ?_
  refine L_aload_n hO 3 dL_law_537 rfl rfl ?_
  refine L_iload_n hO 0 dL_law_538 rfl rfl ?_
  refine L_iconst hO 1 dL_law_539 (by decide) ?_
  refine L_iadd hO dL_law_540 ?_
  refine L_sld hO rfl (j := i + 1) (nI_p1 i) (by omega) hn dL_law_541 ?_
  refine L_aload_n hO 3 dL_law_542 rfl rfl ?_
  refine L_iload_n hO 0 dL_law_543 rfl rfl ?_
  refine L_iconst hO 2 dL_law_544 (by decide) ?_
  refine L_iadd hO dL_law_545 ?_
  refine L_sld hO rfl (j := i + 2) (nI_p2 i) (by omega) hn dL_law_546 ?_
  refine L_callC hO (As := [.int (xs (i + 1)), .int (xs (i + 2))]) (c_X5_conker (gq Γ) (gw Γ) M _ _ e1) 2 rfl gL_law_X5_conker rfl rfl rfl (by decide +kernel) ⟨by decide, by decide⟩ rfl (Nat.le_of_ble_eq_true rfl) dL_law_547 ?_
  refine L_aload_n hO 1 dL_law_550 rfl rfl ?_
  refine L_aload_n hO 3 dL_law_551 rfl rfl ?_
  refine L_iload_n hO 0 dL_law_552 rfl rfl ?_
  refine L_iconst hO 1 dL_law_553 (by decide) ?_
  refine L_iadd hO dL_law_554 ?_
  refine L_sld hO rfl (j := i + 1) (nI_p1 i) (by omega) hn dL_law_555 ?_
  refine L_aload_n hO 3 dL_law_556 rfl rfl ?_
  refine L_iload_n hO 0 dL_law_557 rfl rfl ?_
  refine L_iconst hO 2 dL_law_558 (by decide) ?_
  refine L_iadd hO dL_law_559 ?_
  refine L_sld hO rfl (j := i + 2) (nI_p2 i) (by omega) hn dL_law_560 ?_
  refine L_callM hO (As := [.int (xs (i + 1)), .int (xs (i + 2))]) (c_X6_conker (gq Γ) (gO Γ) M00 TM _ _ e2) 2 rfl gL_law_X6_conker rfl rfl rfl (by decide +kernel) ⟨by decide, by decide⟩ rfl (Nat.le_of_ble_eq_true rfl) dL_law_561 ?_
  refine L_icmp_eq hO 843 dL_law_564 rfl ?_
  exact kk M' TM' hr'
set_option maxHeartbeats 1000000 in
theorem k_player (hO : LOk Γ n xs) (hn : n ≤ 2048) (hi : i + 4 ≤ n) (hr : Rel M TM) (kk : ∀ M' TM', Rel M' TM' → WL Γ 843 (lvL Γ i) [] M' TM') : WL Γ 569 (lvL Γ i) [] M TM := by
  obtain ⟨r, M', TM', e1, e2, hr'⟩ := op_player (xs (i + 1)) (xs (i + 2)) M TM hr
  refine L_aload_n hO 2 dL_law_569 rfl rfl ?_
  refine L_aload_n hO 3 dL_law_570 rfl rfl ?_
  refine L_iload_n hO 0 dL_law_571 rfl rfl ?_
  refine L_iconst hO 1 dL_law_572 (by decide) ?_
  refine L_iadd hO dL_law_573 ?_
  refine L_sld hO rfl (j := i + 1) (nI_p1 i) (by omega) hn dL_law_574 ?_
  refine L_aload_n hO 3 dL_law_575 rfl rfl ?_
  refine L_iload_n hO 0 dL_law_576 rfl rfl ?_
  refine L_iconst hO 2 dL_law_577 (by decide) ?_
  refine L_iadd hO dL_law_578 ?_
  refine L_sld hO rfl (j := i + 2) (nI_p2 i) (by omega) hn dL_law_579 ?_
  refine L_callC hO (As := [.int (xs (i + 1)), .int (xs (i + 2))]) (c_X5_player (gq Γ) (gw Γ) M _ _ e1) 2 rfl gL_law_X5_player rfl rfl rfl (by decide +kernel) ⟨by decide, by decide⟩ rfl (Nat.le_of_ble_eq_true rfl) dL_law_580 ?_
  refine L_aload_n hO 1 dL_law_583 rfl rfl ?_
  refine L_aload_n hO 3 dL_law_584 rfl rfl ?_
  refine L_iload_n hO 0 dL_law_585 rfl rfl ?_
  refine L_iconst hO 1 dL_law_586 (by decide) ?_
  refine L_iadd hO dL_law_587 ?_
  refine L_sld hO rfl (j := i + 1) (nI_p1 i) (by omega) hn dL_law_588 ?_
  refine L_aload_n hO 3 dL_law_589 rfl rfl ?_
  refine L_iload_n hO 0 dL_law_590 rfl rfl ?_
  refine L_iconst hO 2 dL_law_591 (by decide) ?_
  refine L_iadd hO dL_law_592 ?_
  refine L_sld hO rfl (j := i + 2) (nI_p2 i) (by omega) hn dL_law_593 ?_
  refine L_callM hO (As := [.int (xs (i + 1)), .int (xs (i + 2))]) (c_X6_player (gq Γ) (gO Γ) M00 TM _ _ e2) 2 rfl gL_law_X6_player rfl rfl rfl (by decide +kernel) ⟨by decide, by decide⟩ rfl (Nat.le_of_ble_eq_true rfl) dL_law_594 ?_
  refine L_icmp_eq hO 843 dL_law_597 rfl ?_
  exact kk M' TM' hr'
set_option maxHeartbeats 1000000 in
theorem k_ranked (hO : LOk Γ n xs) (hn : n ≤ 2048) (hi : i + 4 ≤ n) (hr : Rel M TM) (kk : ∀ M' TM', Rel M' TM' → WL Γ 843 (lvL Γ i) [] M' TM') : WL Γ 602 (lvL Γ i) [] M TM := by
  obtain ⟨r, M', TM', e1, e2, hr'⟩ := op_ranked (xs (i + 1)) M TM hr
  refine L_aload_n hO 2 dL_law_602 rfl rfl ?_
  refine L_aload_n hO 3 dL_law_603 rfl rfl ?_
  refine L_iload_n hO 0 dL_law_604 rfl rfl ?_
  refine L_iconst hO 1 dL_law_605 (by decide) ?_
  refine L_iadd hO dL_law_606 ?_
  refine L_sld hO rfl (j := i + 1) (nI_p1 i) (by omega) hn dL_law_607 ?_
  refine L_callC hO (As := [.int (xs (i + 1))]) (c_X5_ranked (gq Γ) (gw Γ) M _ e1) 1 rfl gL_law_X5_ranked rfl rfl rfl (by decide +kernel) ⟨by decide, by decide⟩ rfl (Nat.le_of_ble_eq_true rfl) dL_law_608 ?_
  refine L_aload_n hO 1 dL_law_611 rfl rfl ?_
  refine L_aload_n hO 3 dL_law_612 rfl rfl ?_
  refine L_iload_n hO 0 dL_law_613 rfl rfl ?_
  refine L_iconst hO 1 dL_law_614 (by decide) ?_
  refine L_iadd hO dL_law_615 ?_
  refine L_sld hO rfl (j := i + 1) (nI_p1 i) (by omega) hn dL_law_616 ?_
  refine L_callM hO (As := [.int (xs (i + 1))]) (c_X6_ranked (gq Γ) (gO Γ) M00 TM _ e2) 1 rfl gL_law_X6_ranked rfl rfl rfl (by decide +kernel) ⟨by decide, by decide⟩ rfl (Nat.le_of_ble_eq_true rfl) dL_law_617 ?_
  refine L_icmp_eq hO 843 dL_law_620 rfl ?_
  exact kk M' TM' hr'
set_option maxHeartbeats 1000000 in
theorem k_line (hO : LOk Γ n xs) (hn : n ≤ 2048) (hi : i + 4 ≤ n) (hr : Rel M TM) (kk : ∀ M' TM', Rel M' TM' → WL Γ 843 (lvL Γ i) [] M' TM') : WL Γ 625 (lvL Γ i) [] M TM := by
  obtain ⟨r, M', TM', e1, e2, hr'⟩ := op_line (xs (i + 1)) M TM hr
  refine L_aload_n hO 2 dL_law_625 rfl rfl ?_
  refine L_aload_n hO 3 dL_law_626 rfl rfl ?_
  refine L_iload_n hO 0 dL_law_627 rfl rfl ?_
  refine L_iconst hO 1 dL_law_628 (by decide) ?_
  refine L_iadd hO dL_law_629 ?_
  refine L_sld hO rfl (j := i + 1) (nI_p1 i) (by omega) hn dL_law_630 ?_
  refine L_callC hO (As := [.int (xs (i + 1))]) (c_X5_line (gq Γ) (gw Γ) M _ e1) 1 rfl gL_law_X5_line rfl rfl rfl (by decide +kernel) ⟨by decide, by decide⟩ rfl (Nat.le_of_ble_eq_true rfl) dL_law_631 ?_
  refine L_aload_n hO 1 dL_law_634 rfl rfl ?_
  refine L_aload_n hO 3 dL_law_635 rfl rfl ?_
  refine L_iload_n hO 0 dL_law_636 rfl rfl ?_
  refine L_iconst hO 1 dL_law_637 (by decide) ?_
  refine L_iadd hO dL_law_638 ?_
  refine L_sld hO rfl (j := i + 1) (nI_p1 i) (by omega) hn dL_law_639 ?_
  refine L_callM hO (As := [.int (xs (i + 1))]) (c_X6_line (gq Γ) (gO Γ) M00 TM _ e2) 1 rfl gL_law_X6_line rfl rfl rfl (by decide +kernel) ⟨by decide, by decide⟩ rfl (Nat.le_of_ble_eq_true rfl) dL_law_640 ?_
  refine L_icmp_eq hO 843 dL_law_643 rfl ?_
  exact kk M' TM' hr'
set_option maxHeartbeats 1000000 in
theorem k_count (hO : LOk Γ n xs) (hn : n ≤ 2048) (hi : i + 4 ≤ n) (hr : Rel M TM) (kk : ∀ M' TM', Rel M' TM' → WL Γ 843 (lvL Γ i) [] M' TM') : WL Γ 648 (lvL Γ i) [] M TM := by
  obtain ⟨r, M', TM', e1, e2, hr'⟩ := op_count (xs (i + 1)) M TM hr
  refine L_aload_n hO 2 dL_law_648 rfl rfl ?_
  refine L_aload_n hO 3 dL_law_649 rfl rfl ?_
  refine L_iload_n hO 0 dL_law_650 rfl rfl ?_
  refine L_iconst hO 1 dL_law_651 (by decide) ?_
  refine L_iadd hO dL_law_652 ?_
  refine L_sld hO rfl (j := i + 1) (nI_p1 i) (by omega) hn dL_law_653 ?_
  refine L_callC hO (As := [.int (xs (i + 1))]) (c_X5_count (gq Γ) (gw Γ) M _ e1) 1 rfl gL_law_X5_count rfl rfl rfl (by decide +kernel) ⟨by decide, by decide⟩ rfl (Nat.le_of_ble_eq_true rfl) dL_law_654 ?_
  refine L_aload_n hO 1 dL_law_657 rfl rfl ?_
  refine L_aload_n hO 3 dL_law_658 rfl rfl ?_
  refine L_iload_n hO 0 dL_law_659 rfl rfl ?_
  refine L_iconst hO 1 dL_law_660 (by decide) ?_
  refine L_iadd hO dL_law_661 ?_
  refine L_sld hO rfl (j := i + 1) (nI_p1 i) (by omega) hn dL_law_662 ?_
  refine L_callM hO (As := [.int (xs (i + 1))]) (c_X6_count (gq Γ) (gO Γ) M00 TM _ e2) 1 rfl gL_law_X6_count rfl rfl rfl (by decide +kernel) ⟨by decide, by decide⟩ rfl (Nat.le_of_ble_eq_true rfl) dL_law_663 ?_
  refine L_icmp_eq hO 843 dL_law_666 rfl ?_
  exact kk M' TM' hr'
set_option maxHeartbeats 1000000 in
theorem k_ifStruck (hO : LOk Γ n xs) (hn : n ≤ 2048) (hi : i + 4 ≤ n) (hr : Rel M TM) (kk : ∀ M' TM', Rel M' TM' → WL Γ 843 (lvL Γ i) [] M' TM') : WL Γ 671 (lvL Γ i) [] M TM := by
  obtain ⟨r, M', TM', e1, e2, hr'⟩ := op_ifStruck (xs (i + 1)) (xs (i + 2)) (xs (i + 3)) M TM hr
  refine L_aload_n hO 2 dL_law_671 rfl rfl ?_
  refine L_aload_n hO 3 dL_law_672 rfl rfl ?_
  refine L_iload_n hO 0 dL_law_673 rfl rfl ?_
  refine L_iconst hO 1 dL_law_674 (by decide) ?_
  refine L_iadd hO dL_law_675 ?_
  refine L_sld hO rfl (j := i + 1) (nI_p1 i) (by omega) hn dL_law_676 ?_
  refine L_aload_n hO 3 dL_law_677 rfl rfl ?_
  refine L_iload_n hO 0 dL_law_678 rfl rfl ?_
  refine L_iconst hO 2 dL_law_679 (by decide) ?_
  refine L_iadd hO dL_law_680 ?_
  refine L_sld hO rfl (j := i + 2) (nI_p2 i) (by omega) hn dL_law_681 ?_
  refine L_aload_n hO 3 dL_law_682 rfl rfl ?_
  refine L_iload_n hO 0 dL_law_683 rfl rfl ?_
  refine L_iconst hO 3 dL_law_684 (by decide) ?_
  refine L_iadd hO dL_law_685 ?_
  refine L_sld hO rfl (j := i + 3) (nI_p3 i) (by omega) hn dL_law_686 ?_
  refine L_callC hO (As := [.int (xs (i + 1)), .int (xs (i + 2)), .int (xs (i + 3))]) (c_X5_ifStruck (gq Γ) (gw Γ) M _ _ _ e1) 3 rfl gL_law_X5_ifStruck rfl rfl rfl (by decide +kernel) ⟨by decide, by decide⟩ rfl (Nat.le_of_ble_eq_true rfl) dL_law_687 ?_
  refine L_aload_n hO 1 dL_law_690 rfl rfl ?_
  refine L_aload_n hO 3 dL_law_691 rfl rfl ?_
  refine L_iload_n hO 0 dL_law_692 rfl rfl ?_
  refine L_iconst hO 1 dL_law_693 (by decide) ?_
  refine L_iadd hO dL_law_694 ?_
  refine L_sld hO rfl (j := i + 1) (nI_p1 i) (by omega) hn dL_law_695 ?_
  refine L_aload_n hO 3 dL_law_696 rfl rfl ?_
  refine L_iload_n hO 0 dL_law_697 rfl rfl ?_
  refine L_iconst hO 2 dL_law_698 (by decide) ?_
  refine L_iadd hO dL_law_699 ?_
  refine L_sld hO rfl (j := i + 2) (nI_p2 i) (by omega) hn dL_law_700 ?_
  refine L_aload_n hO 3 dL_law_701 rfl rfl ?_
  refine L_iload_n hO 0 dL_law_702 rfl rfl ?_
  refine L_iconst hO 3 dL_law_703 (by decide) ?_
  refine L_iadd hO dL_law_704 ?_
  refine L_sld hO rfl (j := i + 3) (nI_p3 i) (by omega) hn dL_law_705 ?_
  refine L_callM hO (As := [.int (xs (i + 1)), .int (xs (i + 2)), .int (xs (i + 3))]) (c_X6_ifStruck (gq Γ) (gO Γ) M00 TM _ _ _ e2) 3 rfl gL_law_X6_ifStruck rfl rfl rfl (by decide +kernel) ⟨by decide, by decide⟩ rfl (Nat.le_of_ble_eq_true rfl) dL_law_706 ?_
  refine L_icmp_eq hO 843 dL_law_709 rfl ?_
  exact kk M' TM' hr'
set_option maxHeartbeats 1000000 in
theorem k_leastSwing (hO : LOk Γ n xs) (hn : n ≤ 2048) (hi : i + 4 ≤ n) (hr : Rel M TM) (kk : ∀ M' TM', Rel M' TM' → WL Γ 843 (lvL Γ i) [] M' TM') : WL Γ 714 (lvL Γ i) [] M TM := by
  obtain ⟨r, M', TM', e1, e2, hr'⟩ := op_leastSwing (xs (i + 1)) (xs (i + 2)) M TM hr
  refine L_aload_n hO 2 dL_law_714 rfl rfl ?_
  refine L_aload_n hO 3 dL_law_715 rfl rfl ?_
  refine L_iload_n hO 0 dL_law_716 rfl rfl ?_
  refine L_iconst hO 1 dL_law_717 (by decide) ?_
  refine L_iadd hO dL_law_718 ?_
  refine L_sld hO rfl (j := i + 1) (nI_p1 i) (by omega) hn dL_law_719 ?_
  refine L_aload_n hO 3 dL_law_720 rfl rfl ?_
  refine L_iload_n hO 0 dL_law_721 rfl rfl ?_
  refine L_iconst hO 2 dL_law_722 (by decide) ?_
  refine L_iadd hO dL_law_723 ?_
  refine L_sld hO rfl (j := i + 2) (nI_p2 i) (by omega) hn dL_law_724 ?_
  refine L_callC hO (As := [.int (xs (i + 1)), .int (xs (i + 2))]) (c_X5_leastSwing (gq Γ) (gw Γ) M _ _ e1) 2 rfl gL_law_X5_leastSwing rfl rfl rfl (by decide +kernel) ⟨by decide, by decide⟩ rfl (Nat.le_of_ble_eq_true rfl) dL_law_725 ?_
  refine L_aload_n hO 1 dL_law_728 rfl rfl ?_
  refine L_aload_n hO 3 dL_law_729 rfl rfl ?_
  refine L_iload_n hO 0 dL_law_730 rfl rfl ?_
  refine L_iconst hO 1 dL_law_731 (by decide) ?_
  refine L_iadd hO dL_law_732 ?_
  refine L_sld hO rfl (j := i + 1) (nI_p1 i) (by omega) hn dL_law_733 ?_
  refine L_aload_n hO 3 dL_law_734 rfl rfl ?_
  refine L_iload_n hO 0 dL_law_735 rfl rfl ?_
  refine L_iconst hO 2 dL_law_736 (by decide) ?_
  refine L_iadd hO dL_law_737 ?_
  refine L_sld hO rfl (j := i + 2) (nI_p2 i) (by omega) hn dL_law_738 ?_
  refine L_callM hO (As := [.int (xs (i + 1)), .int (xs (i + 2))]) (c_X6_leastSwing (gq Γ) (gO Γ) M00 TM _ _ e2) 2 rfl gL_law_X6_leastSwing rfl rfl rfl (by decide +kernel) ⟨by decide, by decide⟩ rfl (Nat.le_of_ble_eq_true rfl) dL_law_739 ?_
  refine L_icmp_eq hO 843 dL_law_742 rfl ?_
  exact kk M' TM' hr'
set_option maxHeartbeats 1000000 in
theorem k_winner (hO : LOk Γ n xs) (hn : n ≤ 2048) (hi : i + 4 ≤ n) (hr : Rel M TM) (kk : ∀ M' TM', Rel M' TM' → WL Γ 843 (lvL Γ i) [] M' TM') : WL Γ 747 (lvL Γ i) [] M TM := by
  obtain ⟨r, M', TM', e1, e2, hr'⟩ := op_winner (xs (i + 1)) (xs (i + 2)) (xs (i + 3)) M TM hr
  refine L_aload_n hO 2 dL_law_747 rfl rfl ?_
  refine L_aload_n hO 3 dL_law_748 rfl rfl ?_
  refine L_iload_n hO 0 dL_law_749 rfl rfl ?_
  refine L_iconst hO 1 dL_law_750 (by decide) ?_
  refine L_iadd hO dL_law_751 ?_
  refine L_sld hO rfl (j := i + 1) (nI_p1 i) (by omega) hn dL_law_752 ?_
  refine L_aload_n hO 3 dL_law_753 rfl rfl ?_
  refine L_iload_n hO 0 dL_law_754 rfl rfl ?_
  refine L_iconst hO 2 dL_law_755 (by decide) ?_
  refine L_iadd hO dL_law_756 ?_
  refine L_sld hO rfl (j := i + 2) (nI_p2 i) (by omega) hn dL_law_757 ?_
  refine L_aload_n hO 3 dL_law_758 rfl rfl ?_
  refine L_iload_n hO 0 dL_law_759 rfl rfl ?_
  refine L_iconst hO 3 dL_law_760 (by decide) ?_
  refine L_iadd hO dL_law_761 ?_
  refine L_sld hO rfl (j := i + 3) (nI_p3 i) (by omega) hn dL_law_762 ?_
  refine L_callC hO (As := [.int (xs (i + 1)), .int (xs (i + 2)), .int (xs (i + 3))]) (c_X5_winner (gq Γ) (gw Γ) M _ _ _ e1) 3 rfl gL_law_X5_winner rfl rfl rfl (by decide +kernel) ⟨by decide, by decide⟩ rfl (Nat.le_of_ble_eq_true rfl) dL_law_763 ?_
  refine L_aload_n hO 1 dL_law_766 rfl rfl ?_
  refine L_aload_n hO 3 dL_law_767 rfl rfl ?_
  refine L_iload_n hO 0 dL_law_768 rfl rfl ?_
  refine L_iconst hO 1 dL_law_769 (by decide) ?_
  refine L_iadd hO dL_law_770 ?_
  refine L_sld hO rfl (j := i + 1) (nI_p1 i) (by omega) hn dL_law_771 ?_
  refine L_aload_n hO 3 dL_law_772 rfl rfl ?_
  refine L_iload_n hO 0 dL_law_773 rfl rfl ?_
  refine L_iconst hO 2 dL_law_774 (by decide) ?_
  refine L_iadd hO dL_law_775 ?_
  refine L_sld hO rfl (j := i + 2) (nI_p2 i) (by omega) hn dL_law_776 ?_
  refine L_aload_n hO 3 dL_law_777 rfl rfl ?_
  refine L_iload_n hO 0 dL_law_778 rfl rfl ?_
  refine L_iconst hO 3 dL_law_779 (by decide) ?_
  refine L_iadd hO dL_law_780 ?_
  refine L_sld hO rfl (j := i + 3) (nI_p3 i) (by omega) hn dL_law_781 ?_
  refine L_callM hO (As := [.int (xs (i + 1)), .int (xs (i + 2)), .int (xs (i + 3))]) (c_X6_winner (gq Γ) (gO Γ) M00 TM _ _ _ e2) 3 rfl gL_law_X6_winner rfl rfl rfl (by decide +kernel) ⟨by decide, by decide⟩ rfl (Nat.le_of_ble_eq_true rfl) dL_law_782 ?_
  refine L_icmp_eq hO 843 dL_law_785 rfl ?_
  exact kk M' TM' hr'
end CASES
