/-! WALKS (written by wip/whole/gen.py): L_strikes, L_law -/
set_option maxHeartbeats 4000000 in
set_option maxRecDepth 100000 in
theorem b_L_strikes_370 {Γ : Cx} {l : Launch} {ω : Wd} {ct : Nat}  (h : CxOk Γ l ⟨6, 1, 3, 143⟩ 12 ω LC cL_strikes yL_strikes.cls wsL_strikes) (hR : RetI Γ ω LC cL_strikes .boolean) (hcx : CtOk Γ (ct + 0)) : ∀ (j6 : Int64) (s0 : Int32) (M : Mm), Gq ct Γ ω LC eI 370 [(0, .ref (th ω 0 0)), (6, .long j6)] [.int s0] M (m_L_strikes_370 j6 s0 M) := by
  intro j6 s0 M
  unfold m_L_strikes_370
  refine g_istore h (lv' := [(11, .int s0), (0, .ref (th ω 0 0)), (6, .long j6)]) dL_strikes_370 (by decide) [0, 1, 2] rfl ?_
  refine g_iload h 0 dL_strikes_372 rfl ?_
  refine g_if_eq h 398 dL_strikes_374 (by decide) (fun hc1 => ?_) (fun hc1 => ?_)
  · skip
    refine g_iconst h 0 dL_strikes_398 (by decide) ?_
    exact g_iret hR (by decide) dL_strikes_399
  · skip
    refine g_aload_n h 1 dL_strikes_377 rfl rfl ?_
    refine g_callI h (As := []) (fun t => t) (fun r t hG => c_X5_undo l ω _ hG) iC_0_0 (C := RX5) (T := TX5) (N := 8) rfl 0 rfl gL_strikes_X5_undo rfl rfl rfl (by decide +kernel) (by decide) (st0 := _) rfl (Nat.le_of_ble_eq_true rfl) dL_strikes_378 (fun r2 M3 => ?_)
    refine g_if_lt h 398 dL_strikes_381 (by decide) (fun hc4 => ?_) (fun hc4 => ?_)
    · skip
      refine g_iconst h 0 dL_strikes_398 (by decide) ?_
      exact g_iret hR (by decide) dL_strikes_399
    · skip
      refine g_aload_n h 1 dL_strikes_384 rfl rfl ?_
      refine g_callJ h (As := [.ref (th ω 0 0)]) (fun r t hG => c_L_print l ω _ hG) 1 rfl gL_strikes_L_print rfl rfl rfl (by decide +kernel) (by decide) (st0 := _) rfl (Nat.le_of_ble_eq_true rfl) dL_strikes_385 (fun r5 M6 => ?_)
      refine g_lload h 2 dL_strikes_388 rfl ?_
      refine g_lcmp h dL_strikes_390 ?_
      refine g_if_ne h 398 dL_strikes_391 (by decide) (fun hc7 => ?_) (fun hc7 => ?_)
      · skip
        refine g_iconst h 1 dL_strikes_394 (by decide) ?_
        refine g_goto h (tgt := 399) dL_strikes_395 (by decide) ?_
        exact g_iret hR (by decide) dL_strikes_399
      · skip
        refine g_iconst h 0 dL_strikes_398 (by decide) ?_
        exact g_iret hR (by decide) dL_strikes_399
set_option maxHeartbeats 4000000 in
set_option maxRecDepth 100000 in
theorem b_L_strikes_369 {Γ : Cx} {l : Launch} {ω : Wd} {ct : Nat}  (h : CxOk Γ l ⟨6, 1, 3, 143⟩ 12 ω LC cL_strikes yL_strikes.cls wsL_strikes) (hR : RetI Γ ω LC cL_strikes .boolean) (hcx : CtOk Γ (ct + 0)) : ∀ (j6 : Int64) (M : Mm), Gq ct Γ ω LC eI 369 [(0, .ref (th ω 0 0)), (6, .long j6)] [] M (m_L_strikes_369 j6 M) := by
  intro j6 M
  unfold m_L_strikes_369
  refine g_iconst h 0 dL_strikes_369 (by decide) ?_
  exact b_L_strikes_370 h hR (CtOk.mono hcx (by omega)) _ _ _
set_option maxHeartbeats 4000000 in
set_option maxRecDepth 100000 in
theorem b_L_strikes_358 {Γ : Cx} {l : Launch} {ω : Wd} {ct : Nat}  (h : CxOk Γ l ⟨6, 1, 3, 143⟩ 12 ω LC cL_strikes yL_strikes.cls wsL_strikes) (hR : RetI Γ ω LC cL_strikes .boolean) (hcx : CtOk Γ (ct + 1)) : ∀ (j6 : Int64) (M : Mm), Gq ct Γ ω LC eI 358 [(0, .ref (th ω 0 0)), (6, .long j6)] [] M (m_L_strikes_358 j6 M) := by
  intro j6 M
  unfold m_L_strikes_358
  refine g_aload_n h 0 dL_strikes_358 rfl rfl ?_
  refine g_callS h 1 (As := [.ref (th ω 0 0)]) (fun t => t) (CtOk.mono hcx (by omega)) (fun r t hG => c_L_conkers l ω _ hG) 1 rfl gL_strikes_L_conkers rfl rfl rfl (by decide +kernel) (by decide) (st0 := _) rfl (Nat.le_of_ble_eq_true rfl) dL_strikes_359 (fun r1 M2 => ?_)
  refine g_if_eq h 369 dL_strikes_362 (by decide) (fun hc3 => ?_) (fun hc3 => ?_)
  · skip
    exact b_L_strikes_369 h hR (CtOk.mono hcx (by omega)) _ _
  · skip
    refine g_iconst h 1 dL_strikes_365 (by decide) ?_
    refine g_goto h (tgt := 370) dL_strikes_366 (by decide) ?_
    exact b_L_strikes_370 h hR (CtOk.mono hcx (by omega)) _ _ _
set_option maxHeartbeats 4000000 in
set_option maxRecDepth 100000 in
theorem b_L_strikes_339 {Γ : Cx} {l : Launch} {ω : Wd} {ct : Nat}  (h : CxOk Γ l ⟨6, 1, 3, 143⟩ 12 ω LC cL_strikes yL_strikes.cls wsL_strikes) (hR : RetI Γ ω LC cL_strikes .boolean) (hcx : CtOk Γ (ct + 1)) : ∀ (b1 : Int32) (b2 : Int32) (j6 : Int64) (b10 : Int32) (M : Mm), Gq ct Γ ω LC eI 339 [(0, .ref (th ω 0 0)), (1, .int b1), (2, .int b2), (6, .long j6), (10, .int b10)] [] M (m_L_strikes_339 b1 b2 j6 b10 M) := by
  intro b1 b2 j6 b10 M
  unfold m_L_strikes_339
  refine g_iload h 4 dL_strikes_339 rfl ?_
  refine g_iconst h 4 dL_strikes_341 (by decide) ?_
  refine g_irem h dL_strikes_342 ?_
  refine g_iconst h 2 dL_strikes_343 (by decide) ?_
  refine g_icmp_ne h 358 dL_strikes_344 (by decide) (fun hc1 => ?_) (fun hc1 => ?_)
  · skip
    refine g_aload_n h 0 dL_strikes_347 rfl rfl ?_
    refine g_iload_n h 2 dL_strikes_348 rfl rfl ?_
    refine g_bipush h 7 dL_strikes_349 (by decide) ?_
    refine g_callI h (As := [.int b2, .int 7]) (fun t => t) (fun r t hG => c_X5_conker l ω _ b2 7 hG) iC_0_0 (C := RX5) (T := TX5) (N := 8) rfl 2 rfl gL_strikes_X5_conker rfl rfl rfl (by decide +kernel) (by decide) (st0 := _) rfl (Nat.le_of_ble_eq_true rfl) dL_strikes_351 (fun r2 M3 => ?_)
    refine g_iload_n h 1 dL_strikes_354 rfl rfl ?_
    refine g_icmp_ne h 369 dL_strikes_355 (by decide) (fun hc4 => ?_) (fun hc4 => ?_)
    · skip
      refine g_sub (lv' := [(0, .ref (th ω 0 0)), (6, .long j6)]) [0, 3] rfl ?_
      exact b_L_strikes_358 h hR (CtOk.mono hcx (by omega)) _ _
    · skip
      refine g_sub (lv' := [(0, .ref (th ω 0 0)), (6, .long j6)]) [0, 3] rfl ?_
      exact b_L_strikes_369 h hR (CtOk.mono hcx (by omega)) _ _
  · skip
    refine g_sub (lv' := [(0, .ref (th ω 0 0)), (6, .long j6)]) [0, 3] rfl ?_
    exact b_L_strikes_358 h hR (CtOk.mono hcx (by omega)) _ _
set_option maxHeartbeats 4000000 in
set_option maxRecDepth 100000 in
theorem b_L_strikes_320 {Γ : Cx} {l : Launch} {ω : Wd} {ct : Nat}  (h : CxOk Γ l ⟨6, 1, 3, 143⟩ 12 ω LC cL_strikes yL_strikes.cls wsL_strikes) (hR : RetI Γ ω LC cL_strikes .boolean) (hcx : CtOk Γ (ct + 1)) : ∀ (b1 : Int32) (b2 : Int32) (j6 : Int64) (b10 : Int32) (M : Mm), Gq ct Γ ω LC eI 320 [(0, .ref (th ω 0 0)), (1, .int b1), (2, .int b2), (6, .long j6), (10, .int b10)] [] M (m_L_strikes_320 b1 b2 j6 b10 M) := by
  intro b1 b2 j6 b10 M
  unfold m_L_strikes_320
  refine g_iload h 4 dL_strikes_320 rfl ?_
  refine g_iconst h 4 dL_strikes_322 (by decide) ?_
  refine g_irem h dL_strikes_323 ?_
  refine g_iconst h 1 dL_strikes_324 (by decide) ?_
  refine g_icmp_ne h 339 dL_strikes_325 (by decide) (fun hc1 => ?_) (fun hc1 => ?_)
  · skip
    refine g_aload_n h 0 dL_strikes_328 rfl rfl ?_
    refine g_iload_n h 1 dL_strikes_329 rfl rfl ?_
    refine g_bipush h 7 dL_strikes_330 (by decide) ?_
    refine g_callI h (As := [.int b1, .int 7]) (fun t => t) (fun r t hG => c_X5_conker l ω _ b1 7 hG) iC_0_0 (C := RX5) (T := TX5) (N := 8) rfl 2 rfl gL_strikes_X5_conker rfl rfl rfl (by decide +kernel) (by decide) (st0 := _) rfl (Nat.le_of_ble_eq_true rfl) dL_strikes_332 (fun r2 M3 => ?_)
    refine g_iload_n h 2 dL_strikes_335 rfl rfl ?_
    refine g_icmp_ne h 369 dL_strikes_336 (by decide) (fun hc4 => ?_) (fun hc4 => ?_)
    · skip
      exact b_L_strikes_339 h hR (CtOk.mono hcx (by omega)) _ _ _ _ _
    · skip
      refine g_sub (lv' := [(0, .ref (th ω 0 0)), (6, .long j6)]) [0, 3] rfl ?_
      exact b_L_strikes_369 h hR (CtOk.mono hcx (by omega)) _ _
  · skip
    exact b_L_strikes_339 h hR (CtOk.mono hcx (by omega)) _ _ _ _ _
set_option maxHeartbeats 4000000 in
set_option maxRecDepth 100000 in
theorem b_L_strikes_300 {Γ : Cx} {l : Launch} {ω : Wd} {ct : Nat}  (h : CxOk Γ l ⟨6, 1, 3, 143⟩ 12 ω LC cL_strikes yL_strikes.cls wsL_strikes) (hR : RetI Γ ω LC cL_strikes .boolean) (hcx : CtOk Γ (ct + 1)) : ∀ (b1 : Int32) (b2 : Int32) (b3 : Int32) (b5 : Int32) (j6 : Int64) (b10 : Int32) (M : Mm), Gq ct Γ ω LC eI 300 [(0, .ref (th ω 0 0)), (1, .int b1), (2, .int b2), (3, .int b3), (5, .int b5), (6, .long j6), (10, .int b10)] [] M (m_L_strikes_300 b1 b2 b3 b5 j6 b10 M) := by
  intro b1 b2 b3 b5 j6 b10 M
  unfold m_L_strikes_300
  refine g_iload h 6 dL_strikes_300 rfl ?_
  refine g_iconst h 4 dL_strikes_302 (by decide) ?_
  refine g_irem h dL_strikes_303 ?_
  refine g_iconst h 2 dL_strikes_304 (by decide) ?_
  refine g_icmp_ne h 320 dL_strikes_305 (by decide) (fun hc1 => ?_) (fun hc1 => ?_)
  · skip
    refine g_iload h 4 dL_strikes_308 rfl ?_
    refine g_iconst h 1 dL_strikes_310 (by decide) ?_
    refine g_icmp_lt h 369 dL_strikes_311 (by decide) (fun hc2 => ?_) (fun hc2 => ?_)
    · skip
      refine g_sub (lv' := [(0, .ref (th ω 0 0)), (6, .long j6)]) [0, 5] rfl ?_
      exact b_L_strikes_369 h hR (CtOk.mono hcx (by omega)) _ _
    · skip
      refine g_iload h 4 dL_strikes_314 rfl ?_
      refine g_iload_n h 3 dL_strikes_316 rfl rfl ?_
      refine g_icmp_gt h 369 dL_strikes_317 (by decide) (fun hc3 => ?_) (fun hc3 => ?_)
      · skip
        refine g_sub (lv' := [(0, .ref (th ω 0 0)), (6, .long j6)]) [0, 5] rfl ?_
        exact b_L_strikes_369 h hR (CtOk.mono hcx (by omega)) _ _
      · skip
        refine g_sub (lv' := [(0, .ref (th ω 0 0)), (1, .int b1), (2, .int b2), (6, .long j6), (10, .int b10)]) [0, 1, 2, 5, 6] rfl ?_
        exact b_L_strikes_320 h hR (CtOk.mono hcx (by omega)) _ _ _ _ _
  · skip
    refine g_sub (lv' := [(0, .ref (th ω 0 0)), (1, .int b1), (2, .int b2), (6, .long j6), (10, .int b10)]) [0, 1, 2, 5, 6] rfl ?_
    exact b_L_strikes_320 h hR (CtOk.mono hcx (by omega)) _ _ _ _ _
set_option maxHeartbeats 4000000 in
set_option maxRecDepth 100000 in
theorem b_L_strikes_240 {Γ : Cx} {l : Launch} {ω : Wd} {ct : Nat}  (h : CxOk Γ l ⟨6, 1, 3, 143⟩ 12 ω LC cL_strikes yL_strikes.cls wsL_strikes) (hR : RetI Γ ω LC cL_strikes .boolean) (hcx : CtOk Γ (ct + 1)) : ∀ (b1 : Int32) (b2 : Int32) (b3 : Int32) (b5 : Int32) (j6 : Int64) (b9 : Int32) (b10 : Int32) (s0 : Int32) (M : Mm), Gq ct Γ ω LC eI 240 [(0, .ref (th ω 0 0)), (1, .int b1), (2, .int b2), (3, .int b3), (5, .int b5), (6, .long j6), (9, .int b9), (10, .int b10)] [.int s0] M (m_L_strikes_240 b1 b2 b3 b5 j6 b9 b10 s0 M) := by
  intro b1 b2 b3 b5 j6 b9 b10 s0 M
  unfold m_L_strikes_240
  refine g_istore h (lv' := [(11, .int s0), (0, .ref (th ω 0 0)), (1, .int b1), (2, .int b2), (3, .int b3), (5, .int b5), (6, .long j6), (9, .int b9), (10, .int b10)]) dL_strikes_240 (by decide) [0, 1, 2, 3, 4, 5, 6, 7, 8] rfl ?_
  refine g_iload h 0 dL_strikes_242 rfl ?_
  refine g_if_eq h 369 dL_strikes_244 (by decide) (fun hc1 => ?_) (fun hc1 => ?_)
  · skip
    refine g_sub (lv' := [(0, .ref (th ω 0 0)), (6, .long j6)]) [1, 6] rfl ?_
    exact b_L_strikes_369 h hR (CtOk.mono hcx (by omega)) _ _
  · skip
    refine g_iload h 8 dL_strikes_247 rfl ?_
    refine g_iconst h 4 dL_strikes_249 (by decide) ?_
    refine g_irem h dL_strikes_250 ?_
    refine g_if_ne h 267 dL_strikes_251 (by decide) (fun hc2 => ?_) (fun hc2 => ?_)
    · skip
      refine g_aload_n h 1 dL_strikes_254 rfl rfl ?_
      refine g_iconst h 4 dL_strikes_255 (by decide) ?_
      refine g_callI h (As := [.int 4]) (fun t => t) (fun r t hG => c_X5_count l ω _ 4 hG) iC_0_0 (C := RX5) (T := TX5) (N := 8) rfl 1 rfl gL_strikes_X5_count rfl rfl rfl (by decide +kernel) (by decide) (st0 := _) rfl (Nat.le_of_ble_eq_true rfl) dL_strikes_256 (fun r3 M4 => ?_)
      refine g_iload h 7 dL_strikes_259 rfl ?_
      refine g_icmp_ne h 369 dL_strikes_261 (by decide) (fun hc5 => ?_) (fun hc5 => ?_)
      · skip
        refine g_goto h (tgt := 300) dL_strikes_264 (by decide) ?_
        refine g_sub (lv' := [(0, .ref (th ω 0 0)), (1, .int b1), (2, .int b2), (3, .int b3), (5, .int b5), (6, .long j6), (10, .int b10)]) [1, 2, 3, 4, 5, 6, 8] rfl ?_
        exact b_L_strikes_300 h hR (CtOk.mono hcx (by omega)) _ _ _ _ _ _ _
      · skip
        refine g_sub (lv' := [(0, .ref (th ω 0 0)), (6, .long j6)]) [1, 6] rfl ?_
        exact b_L_strikes_369 h hR (CtOk.mono hcx (by omega)) _ _
    · skip
      refine g_iload h 8 dL_strikes_267 rfl ?_
      refine g_iconst h 4 dL_strikes_269 (by decide) ?_
      refine g_irem h dL_strikes_270 ?_
      refine g_iconst h 3 dL_strikes_271 (by decide) ?_
      refine g_icmp_ne h 288 dL_strikes_272 (by decide) (fun hc6 => ?_) (fun hc6 => ?_)
      · skip
        refine g_aload_n h 1 dL_strikes_275 rfl rfl ?_
        refine g_iconst h 4 dL_strikes_276 (by decide) ?_
        refine g_callI h (As := [.int 4]) (fun t => t) (fun r t hG => c_X5_count l ω _ 4 hG) iC_0_0 (C := RX5) (T := TX5) (N := 8) rfl 1 rfl gL_strikes_X5_count rfl rfl rfl (by decide +kernel) (by decide) (st0 := _) rfl (Nat.le_of_ble_eq_true rfl) dL_strikes_277 (fun r7 M8 => ?_)
        refine g_iload h 7 dL_strikes_280 rfl ?_
        refine g_icmp_gt h 369 dL_strikes_282 (by decide) (fun hc9 => ?_) (fun hc9 => ?_)
        · skip
          refine g_sub (lv' := [(0, .ref (th ω 0 0)), (6, .long j6)]) [1, 6] rfl ?_
          exact b_L_strikes_369 h hR (CtOk.mono hcx (by omega)) _ _
        · skip
          refine g_goto h (tgt := 300) dL_strikes_285 (by decide) ?_
          refine g_sub (lv' := [(0, .ref (th ω 0 0)), (1, .int b1), (2, .int b2), (3, .int b3), (5, .int b5), (6, .long j6), (10, .int b10)]) [1, 2, 3, 4, 5, 6, 8] rfl ?_
          exact b_L_strikes_300 h hR (CtOk.mono hcx (by omega)) _ _ _ _ _ _ _
      · skip
        refine g_aload_n h 1 dL_strikes_288 rfl rfl ?_
        refine g_iconst h 4 dL_strikes_289 (by decide) ?_
        refine g_callI h (As := [.int 4]) (fun t => t) (fun r t hG => c_X5_count l ω _ 4 hG) iC_0_0 (C := RX5) (T := TX5) (N := 8) rfl 1 rfl gL_strikes_X5_count rfl rfl rfl (by decide +kernel) (by decide) (st0 := _) rfl (Nat.le_of_ble_eq_true rfl) dL_strikes_290 (fun r10 M11 => ?_)
        refine g_iload h 7 dL_strikes_293 rfl ?_
        refine g_iconst h 1 dL_strikes_295 (by decide) ?_
        refine g_iadd h dL_strikes_296 ?_
        refine g_icmp_ne h 369 dL_strikes_297 (by decide) (fun hc12 => ?_) (fun hc12 => ?_)
        · skip
          refine g_sub (lv' := [(0, .ref (th ω 0 0)), (1, .int b1), (2, .int b2), (3, .int b3), (5, .int b5), (6, .long j6), (10, .int b10)]) [1, 2, 3, 4, 5, 6, 8] rfl ?_
          exact b_L_strikes_300 h hR (CtOk.mono hcx (by omega)) _ _ _ _ _ _ _
        · skip
          refine g_sub (lv' := [(0, .ref (th ω 0 0)), (6, .long j6)]) [1, 6] rfl ?_
          exact b_L_strikes_369 h hR (CtOk.mono hcx (by omega)) _ _
set_option maxHeartbeats 4000000 in
set_option maxRecDepth 100000 in
theorem b_L_strikes_239 {Γ : Cx} {l : Launch} {ω : Wd} {ct : Nat}  (h : CxOk Γ l ⟨6, 1, 3, 143⟩ 12 ω LC cL_strikes yL_strikes.cls wsL_strikes) (hR : RetI Γ ω LC cL_strikes .boolean) (hcx : CtOk Γ (ct + 1)) : ∀ (b1 : Int32) (b2 : Int32) (b3 : Int32) (b5 : Int32) (j6 : Int64) (b9 : Int32) (b10 : Int32) (M : Mm), Gq ct Γ ω LC eI 239 [(0, .ref (th ω 0 0)), (1, .int b1), (2, .int b2), (3, .int b3), (5, .int b5), (6, .long j6), (9, .int b9), (10, .int b10)] [] M (m_L_strikes_239 b1 b2 b3 b5 j6 b9 b10 M) := by
  intro b1 b2 b3 b5 j6 b9 b10 M
  unfold m_L_strikes_239
  refine g_iconst h 0 dL_strikes_239 (by decide) ?_
  exact b_L_strikes_240 h hR (CtOk.mono hcx (by omega)) _ _ _ _ _ _ _ _ _
set_option maxHeartbeats 4000000 in
set_option maxRecDepth 100000 in
theorem b_L_strikes_232 {Γ : Cx} {l : Launch} {ω : Wd} {ct : Nat}  (h : CxOk Γ l ⟨6, 1, 3, 143⟩ 12 ω LC cL_strikes yL_strikes.cls wsL_strikes) (hR : RetI Γ ω LC cL_strikes .boolean) (hcx : CtOk Γ (ct + 1)) : ∀ (b1 : Int32) (b2 : Int32) (b3 : Int32) (b5 : Int32) (j6 : Int64) (b9 : Int32) (b10 : Int32) (s0 : Int32) (s1 : Int32) (M : Mm), Gq ct Γ ω LC eI 232 [(0, .ref (th ω 0 0)), (1, .int b1), (2, .int b2), (3, .int b3), (5, .int b5), (6, .long j6), (9, .int b9), (10, .int b10)] [.int s1, .int s0] M (m_L_strikes_232 b1 b2 b3 b5 j6 b9 b10 s0 s1 M) := by
  intro b1 b2 b3 b5 j6 b9 b10 s0 s1 M
  unfold m_L_strikes_232
  refine g_icmp_ne h 239 dL_strikes_232 (by decide) (fun hc1 => ?_) (fun hc1 => ?_)
  · skip
    refine g_iconst h 1 dL_strikes_235 (by decide) ?_
    refine g_goto h (tgt := 240) dL_strikes_236 (by decide) ?_
    exact b_L_strikes_240 h hR (CtOk.mono hcx (by omega)) _ _ _ _ _ _ _ _ _
  · skip
    exact b_L_strikes_239 h hR (CtOk.mono hcx (by omega)) _ _ _ _ _ _ _ _
set_option maxHeartbeats 4000000 in
set_option maxRecDepth 100000 in
theorem b_L_strikes_218 {Γ : Cx} {l : Launch} {ω : Wd} {ct : Nat}  (h : CxOk Γ l ⟨6, 1, 3, 143⟩ 12 ω LC cL_strikes yL_strikes.cls wsL_strikes) (hR : RetI Γ ω LC cL_strikes .boolean) (hcx : CtOk Γ (ct + 1)) : ∀ (b1 : Int32) (b2 : Int32) (b3 : Int32) (b5 : Int32) (j6 : Int64) (b9 : Int32) (b10 : Int32) (s0 : Int32) (M : Mm), Gq ct Γ ω LC eI 218 [(0, .ref (th ω 0 0)), (1, .int b1), (2, .int b2), (3, .int b3), (5, .int b5), (6, .long j6), (9, .int b9), (10, .int b10)] [.int s0] M (m_L_strikes_218 b1 b2 b3 b5 j6 b9 b10 s0 M) := by
  intro b1 b2 b3 b5 j6 b9 b10 s0 M
  unfold m_L_strikes_218
  refine g_iload h 7 dL_strikes_218 rfl ?_
  refine g_bipush h 8 dL_strikes_220 (by decide) ?_
  refine g_idiv h dL_strikes_222 ?_
  refine g_iconst h 1 dL_strikes_223 (by decide) ?_
  refine g_icmp_ne h 231 dL_strikes_224 (by decide) (fun hc1 => ?_) (fun hc1 => ?_)
  · skip
    refine g_iconst h 1 dL_strikes_227 (by decide) ?_
    refine g_goto h (tgt := 232) dL_strikes_228 (by decide) ?_
    exact b_L_strikes_232 h hR (CtOk.mono hcx (by omega)) _ _ _ _ _ _ _ _ _ _
  · skip
    refine g_iconst h 0 dL_strikes_231 (by decide) ?_
    exact b_L_strikes_232 h hR (CtOk.mono hcx (by omega)) _ _ _ _ _ _ _ _ _ _
set_option maxHeartbeats 4000000 in
set_option maxRecDepth 100000 in
theorem b_L_strikes_199 {Γ : Cx} {l : Launch} {ω : Wd} {ct : Nat}  (h : CxOk Γ l ⟨6, 1, 3, 143⟩ 12 ω LC cL_strikes yL_strikes.cls wsL_strikes) (hR : RetI Γ ω LC cL_strikes .boolean) (hcx : CtOk Γ (ct + 1)) : ∀ (b1 : Int32) (b2 : Int32) (b3 : Int32) (b5 : Int32) (j6 : Int64) (b9 : Int32) (b10 : Int32) (s0 : Int32) (s1 : Int32) (M : Mm), Gq ct Γ ω LC eI 199 [(0, .ref (th ω 0 0)), (1, .int b1), (2, .int b2), (3, .int b3), (5, .int b5), (6, .long j6), (9, .int b9), (10, .int b10)] [.int s1, .int s0] M (m_L_strikes_199 b1 b2 b3 b5 j6 b9 b10 s0 s1 M) := by
  intro b1 b2 b3 b5 j6 b9 b10 s0 s1 M
  unfold m_L_strikes_199
  refine g_icmp_ne h 239 dL_strikes_199 (by decide) (fun hc1 => ?_) (fun hc1 => ?_)
  · skip
    refine g_aload_n h 0 dL_strikes_202 rfl rfl ?_
    refine g_iload_n h 2 dL_strikes_203 rfl rfl ?_
    refine g_bipush h 6 dL_strikes_204 (by decide) ?_
    refine g_callI h (As := [.int b2, .int 6]) (fun t => t) (fun r t hG => c_X5_conker l ω _ b2 6 hG) iC_0_0 (C := RX5) (T := TX5) (N := 8) rfl 2 rfl gL_strikes_X5_conker rfl rfl rfl (by decide +kernel) (by decide) (st0 := _) rfl (Nat.le_of_ble_eq_true rfl) dL_strikes_206 (fun r2 M3 => ?_)
    refine g_iconst h 1 dL_strikes_209 (by decide) ?_
    refine g_icmp_ne h 217 dL_strikes_210 (by decide) (fun hc4 => ?_) (fun hc4 => ?_)
    · skip
      refine g_iconst h 1 dL_strikes_213 (by decide) ?_
      refine g_goto h (tgt := 218) dL_strikes_214 (by decide) ?_
      exact b_L_strikes_218 h hR (CtOk.mono hcx (by omega)) _ _ _ _ _ _ _ _ _
    · skip
      refine g_iconst h 0 dL_strikes_217 (by decide) ?_
      exact b_L_strikes_218 h hR (CtOk.mono hcx (by omega)) _ _ _ _ _ _ _ _ _
  · skip
    exact b_L_strikes_239 h hR (CtOk.mono hcx (by omega)) _ _ _ _ _ _ _ _
set_option maxHeartbeats 4000000 in
set_option maxRecDepth 100000 in
theorem b_L_strikes_184 {Γ : Cx} {l : Launch} {ω : Wd} {ct : Nat}  (h : CxOk Γ l ⟨6, 1, 3, 143⟩ 12 ω LC cL_strikes yL_strikes.cls wsL_strikes) (hR : RetI Γ ω LC cL_strikes .boolean) (hcx : CtOk Γ (ct + 1)) : ∀ (b1 : Int32) (b2 : Int32) (b3 : Int32) (b5 : Int32) (j6 : Int64) (b9 : Int32) (b10 : Int32) (s0 : Int32) (M : Mm), Gq ct Γ ω LC eI 184 [(0, .ref (th ω 0 0)), (1, .int b1), (2, .int b2), (3, .int b3), (5, .int b5), (6, .long j6), (9, .int b9), (10, .int b10)] [.int s0] M (m_L_strikes_184 b1 b2 b3 b5 j6 b9 b10 s0 M) := by
  intro b1 b2 b3 b5 j6 b9 b10 s0 M
  unfold m_L_strikes_184
  refine g_iload h 7 dL_strikes_184 rfl ?_
  refine g_iconst h 4 dL_strikes_186 (by decide) ?_
  refine g_idiv h dL_strikes_187 ?_
  refine g_iconst h 2 dL_strikes_188 (by decide) ?_
  refine g_irem h dL_strikes_189 ?_
  refine g_iconst h 1 dL_strikes_190 (by decide) ?_
  refine g_icmp_ne h 198 dL_strikes_191 (by decide) (fun hc1 => ?_) (fun hc1 => ?_)
  · skip
    refine g_iconst h 1 dL_strikes_194 (by decide) ?_
    refine g_goto h (tgt := 199) dL_strikes_195 (by decide) ?_
    exact b_L_strikes_199 h hR (CtOk.mono hcx (by omega)) _ _ _ _ _ _ _ _ _ _
  · skip
    refine g_iconst h 0 dL_strikes_198 (by decide) ?_
    exact b_L_strikes_199 h hR (CtOk.mono hcx (by omega)) _ _ _ _ _ _ _ _ _ _
set_option maxHeartbeats 4000000 in
set_option maxRecDepth 100000 in
theorem b_L_strikes_165 {Γ : Cx} {l : Launch} {ω : Wd} {ct : Nat}  (h : CxOk Γ l ⟨6, 1, 3, 143⟩ 12 ω LC cL_strikes yL_strikes.cls wsL_strikes) (hR : RetI Γ ω LC cL_strikes .boolean) (hcx : CtOk Γ (ct + 1)) : ∀ (b1 : Int32) (b2 : Int32) (b3 : Int32) (b5 : Int32) (j6 : Int64) (b9 : Int32) (b10 : Int32) (s0 : Int32) (s1 : Int32) (M : Mm), Gq ct Γ ω LC eI 165 [(0, .ref (th ω 0 0)), (1, .int b1), (2, .int b2), (3, .int b3), (5, .int b5), (6, .long j6), (9, .int b9), (10, .int b10)] [.int s1, .int s0] M (m_L_strikes_165 b1 b2 b3 b5 j6 b9 b10 s0 s1 M) := by
  intro b1 b2 b3 b5 j6 b9 b10 s0 s1 M
  unfold m_L_strikes_165
  refine g_icmp_ne h 239 dL_strikes_165 (by decide) (fun hc1 => ?_) (fun hc1 => ?_)
  · skip
    refine g_aload_n h 0 dL_strikes_168 rfl rfl ?_
    refine g_iload_n h 1 dL_strikes_169 rfl rfl ?_
    refine g_bipush h 6 dL_strikes_170 (by decide) ?_
    refine g_callI h (As := [.int b1, .int 6]) (fun t => t) (fun r t hG => c_X5_conker l ω _ b1 6 hG) iC_0_0 (C := RX5) (T := TX5) (N := 8) rfl 2 rfl gL_strikes_X5_conker rfl rfl rfl (by decide +kernel) (by decide) (st0 := _) rfl (Nat.le_of_ble_eq_true rfl) dL_strikes_172 (fun r2 M3 => ?_)
    refine g_iconst h 1 dL_strikes_175 (by decide) ?_
    refine g_icmp_ne h 183 dL_strikes_176 (by decide) (fun hc4 => ?_) (fun hc4 => ?_)
    · skip
      refine g_iconst h 1 dL_strikes_179 (by decide) ?_
      refine g_goto h (tgt := 184) dL_strikes_180 (by decide) ?_
      exact b_L_strikes_184 h hR (CtOk.mono hcx (by omega)) _ _ _ _ _ _ _ _ _
    · skip
      refine g_iconst h 0 dL_strikes_183 (by decide) ?_
      exact b_L_strikes_184 h hR (CtOk.mono hcx (by omega)) _ _ _ _ _ _ _ _ _
  · skip
    exact b_L_strikes_239 h hR (CtOk.mono hcx (by omega)) _ _ _ _ _ _ _ _
set_option maxHeartbeats 4000000 in
set_option maxRecDepth 100000 in
theorem b_L_strikes_150 {Γ : Cx} {l : Launch} {ω : Wd} {ct : Nat}  (h : CxOk Γ l ⟨6, 1, 3, 143⟩ 12 ω LC cL_strikes yL_strikes.cls wsL_strikes) (hR : RetI Γ ω LC cL_strikes .boolean) (hcx : CtOk Γ (ct + 1)) : ∀ (b1 : Int32) (b2 : Int32) (b3 : Int32) (b5 : Int32) (j6 : Int64) (b9 : Int32) (b10 : Int32) (s0 : Int32) (M : Mm), Gq ct Γ ω LC eI 150 [(0, .ref (th ω 0 0)), (1, .int b1), (2, .int b2), (3, .int b3), (5, .int b5), (6, .long j6), (9, .int b9), (10, .int b10)] [.int s0] M (m_L_strikes_150 b1 b2 b3 b5 j6 b9 b10 s0 M) := by
  intro b1 b2 b3 b5 j6 b9 b10 s0 M
  unfold m_L_strikes_150
  refine g_iload h 7 dL_strikes_150 rfl ?_
  refine g_iconst h 2 dL_strikes_152 (by decide) ?_
  refine g_idiv h dL_strikes_153 ?_
  refine g_iconst h 2 dL_strikes_154 (by decide) ?_
  refine g_irem h dL_strikes_155 ?_
  refine g_iconst h 1 dL_strikes_156 (by decide) ?_
  refine g_icmp_ne h 164 dL_strikes_157 (by decide) (fun hc1 => ?_) (fun hc1 => ?_)
  · skip
    refine g_iconst h 1 dL_strikes_160 (by decide) ?_
    refine g_goto h (tgt := 165) dL_strikes_161 (by decide) ?_
    exact b_L_strikes_165 h hR (CtOk.mono hcx (by omega)) _ _ _ _ _ _ _ _ _ _
  · skip
    refine g_iconst h 0 dL_strikes_164 (by decide) ?_
    exact b_L_strikes_165 h hR (CtOk.mono hcx (by omega)) _ _ _ _ _ _ _ _ _ _
set_option maxHeartbeats 4000000 in
set_option maxRecDepth 100000 in
theorem b_L_strikes_131 {Γ : Cx} {l : Launch} {ω : Wd} {ct : Nat}  (h : CxOk Γ l ⟨6, 1, 3, 143⟩ 12 ω LC cL_strikes yL_strikes.cls wsL_strikes) (hR : RetI Γ ω LC cL_strikes .boolean) (hcx : CtOk Γ (ct + 1)) : ∀ (b1 : Int32) (b2 : Int32) (b3 : Int32) (b5 : Int32) (j6 : Int64) (b9 : Int32) (b10 : Int32) (s0 : Int32) (s1 : Int32) (M : Mm), Gq ct Γ ω LC eI 131 [(0, .ref (th ω 0 0)), (1, .int b1), (2, .int b2), (3, .int b3), (5, .int b5), (6, .long j6), (9, .int b9), (10, .int b10)] [.int s1, .int s0] M (m_L_strikes_131 b1 b2 b3 b5 j6 b9 b10 s0 s1 M) := by
  intro b1 b2 b3 b5 j6 b9 b10 s0 s1 M
  unfold m_L_strikes_131
  refine g_icmp_ne h 239 dL_strikes_131 (by decide) (fun hc1 => ?_) (fun hc1 => ?_)
  · skip
    refine g_aload_n h 0 dL_strikes_134 rfl rfl ?_
    refine g_iload_n h 2 dL_strikes_135 rfl rfl ?_
    refine g_bipush h 6 dL_strikes_136 (by decide) ?_
    refine g_callI h (As := [.int b2, .int 6]) (fun t => t) (fun r t hG => c_X5_conker l ω _ b2 6 hG) iC_0_0 (C := RX5) (T := TX5) (N := 8) rfl 2 rfl gL_strikes_X5_conker rfl rfl rfl (by decide +kernel) (by decide) (st0 := _) rfl (Nat.le_of_ble_eq_true rfl) dL_strikes_138 (fun r2 M3 => ?_)
    refine g_iconst h 2 dL_strikes_141 (by decide) ?_
    refine g_icmp_ne h 149 dL_strikes_142 (by decide) (fun hc4 => ?_) (fun hc4 => ?_)
    · skip
      refine g_iconst h 1 dL_strikes_145 (by decide) ?_
      refine g_goto h (tgt := 150) dL_strikes_146 (by decide) ?_
      exact b_L_strikes_150 h hR (CtOk.mono hcx (by omega)) _ _ _ _ _ _ _ _ _
    · skip
      refine g_iconst h 0 dL_strikes_149 (by decide) ?_
      exact b_L_strikes_150 h hR (CtOk.mono hcx (by omega)) _ _ _ _ _ _ _ _ _
  · skip
    exact b_L_strikes_239 h hR (CtOk.mono hcx (by omega)) _ _ _ _ _ _ _ _
set_option maxHeartbeats 4000000 in
set_option maxRecDepth 100000 in
theorem b_L_strikes_118 {Γ : Cx} {l : Launch} {ω : Wd} {ct : Nat}  (h : CxOk Γ l ⟨6, 1, 3, 143⟩ 12 ω LC cL_strikes yL_strikes.cls wsL_strikes) (hR : RetI Γ ω LC cL_strikes .boolean) (hcx : CtOk Γ (ct + 1)) : ∀ (b1 : Int32) (b2 : Int32) (b3 : Int32) (b5 : Int32) (j6 : Int64) (b9 : Int32) (b10 : Int32) (s0 : Int32) (M : Mm), Gq ct Γ ω LC eI 118 [(0, .ref (th ω 0 0)), (1, .int b1), (2, .int b2), (3, .int b3), (5, .int b5), (6, .long j6), (9, .int b9), (10, .int b10)] [.int s0] M (m_L_strikes_118 b1 b2 b3 b5 j6 b9 b10 s0 M) := by
  intro b1 b2 b3 b5 j6 b9 b10 s0 M
  unfold m_L_strikes_118
  refine g_iload h 7 dL_strikes_118 rfl ?_
  refine g_iconst h 2 dL_strikes_120 (by decide) ?_
  refine g_irem h dL_strikes_121 ?_
  refine g_iconst h 1 dL_strikes_122 (by decide) ?_
  refine g_icmp_ne h 130 dL_strikes_123 (by decide) (fun hc1 => ?_) (fun hc1 => ?_)
  · skip
    refine g_iconst h 1 dL_strikes_126 (by decide) ?_
    refine g_goto h (tgt := 131) dL_strikes_127 (by decide) ?_
    exact b_L_strikes_131 h hR (CtOk.mono hcx (by omega)) _ _ _ _ _ _ _ _ _ _
  · skip
    refine g_iconst h 0 dL_strikes_130 (by decide) ?_
    exact b_L_strikes_131 h hR (CtOk.mono hcx (by omega)) _ _ _ _ _ _ _ _ _ _
set_option maxHeartbeats 4000000 in
set_option maxRecDepth 100000 in
theorem c_L_strikes (l : Launch) (ω : Wd)  (M : Mm) (a1 : Int32) (a2 : Int32) (a3 : Int32) {r : Int32} {M' : Mm} (hm : m_L_strikes a1 a2 a3 M = some (r, M')) : MI l yL_strikes wsL_strikes ⟨6, 1, 3, 143⟩ ω LC [.ref (th ω 0 0), .int a1, .int a2, .int a3] M r M' := by
  refine met_i (cc := cL_strikes) (maxL := 12) (ty := .boolean) (by decide +kernel) rfl (Nat.le_of_ble_eq_true rfl) LC_nd ?_
  intro Γ h hR ht
  suffices K : Gq 0 Γ ω LC eI 0 [(0, .ref (th ω 0 0)), (1, .int a1), (2, .int a2), (3, .int a3)] [] M (m_L_strikes a1 a2 a3 M) from K (r, M') hm ht (c0 Γ)
  have hcx : CtOk Γ (0 + 1) := ctRm h (by decide) (by decide)
  unfold m_L_strikes
  refine g_aload_n h 0 dL_strikes_0 rfl rfl ?_
  refine g_iload_n h 1 dL_strikes_1 rfl rfl ?_
  refine g_iload_n h 2 dL_strikes_2 rfl rfl ?_
  refine g_iload_n h 3 dL_strikes_3 rfl rfl ?_
  refine g_callI h (As := [.int a1, .int a2, .int a3]) (fun t => t) (fun r t hG => c_X5_ifStruck l ω _ a1 a2 a3 hG) iC_0_0 (C := RX5) (T := TX5) (N := 8) rfl 3 rfl gL_strikes_X5_ifStruck rfl rfl rfl (by decide +kernel) (by decide) (st0 := _) rfl (Nat.le_of_ble_eq_true rfl) dL_strikes_4 (fun r1 M2 => ?_)
  refine g_istore h (lv' := [(4, .int r1), (0, .ref (th ω 0 0)), (1, .int a1), (2, .int a2), (3, .int a3)]) dL_strikes_7 (by decide) [0, 1, 2, 3, 4] rfl ?_
  refine g_aload_n h 1 dL_strikes_9 rfl rfl ?_
  refine g_iload_n h 2 dL_strikes_10 rfl rfl ?_
  refine g_iload_n h 3 dL_strikes_11 rfl rfl ?_
  refine g_callI h (As := [.int a1, .int a2]) (fun t => t) (fun r t hG => c_X5_leastSwing l ω _ a1 a2 hG) iC_0_0 (C := RX5) (T := TX5) (N := 8) rfl 2 rfl gL_strikes_X5_leastSwing rfl rfl rfl (by decide +kernel) (by decide) (st0 := _) rfl (Nat.le_of_ble_eq_true rfl) dL_strikes_12 (fun r3 M4 => ?_)
  refine g_istore h (lv' := [(5, .int r3), (4, .int r1), (0, .ref (th ω 0 0)), (1, .int a1), (2, .int a2), (3, .int a3)]) dL_strikes_15 (by decide) [0, 1, 2, 3, 4, 5] rfl ?_
  refine g_aload_n h 2 dL_strikes_17 rfl rfl ?_
  refine g_callJ h (As := [.ref (th ω 0 0)]) (fun r t hG => c_L_print l ω _ hG) 1 rfl gL_strikes_L_print rfl rfl rfl (by decide +kernel) (by decide) (st0 := _) rfl (Nat.le_of_ble_eq_true rfl) dL_strikes_18 (fun r5 M6 => ?_)
  refine g_lstore h (lv' := [(6, .long r5), (5, .int r3), (4, .int r1), (0, .ref (th ω 0 0)), (1, .int a1), (2, .int a2), (3, .int a3)]) dL_strikes_21 (by decide) [0, 1, 2, 3, 4, 5, 6] rfl ?_
  refine g_aload_n h 3 dL_strikes_23 rfl rfl ?_
  refine g_bipush h 6 dL_strikes_24 (by decide) ?_
  refine g_callI h (As := [.int 6]) (fun t => t) (fun r t hG => c_X5_count l ω _ 6 hG) iC_0_0 (C := RX5) (T := TX5) (N := 8) rfl 1 rfl gL_strikes_X5_count rfl rfl rfl (by decide +kernel) (by decide) (st0 := _) rfl (Nat.le_of_ble_eq_true rfl) dL_strikes_26 (fun r7 M8 => ?_)
  refine g_istore h (lv' := [(8, .int r7), (6, .long r5), (5, .int r3), (4, .int r1), (0, .ref (th ω 0 0)), (1, .int a1), (2, .int a2), (3, .int a3)]) dL_strikes_29 (by decide) [0, 1, 2, 3, 4, 5, 6, 7] rfl ?_
  refine g_aload_n h 4 dL_strikes_31 rfl rfl ?_
  refine g_iconst h 4 dL_strikes_32 (by decide) ?_
  refine g_callI h (As := [.int 4]) (fun t => t) (fun r t hG => c_X5_count l ω _ 4 hG) iC_0_0 (C := RX5) (T := TX5) (N := 8) rfl 1 rfl gL_strikes_X5_count rfl rfl rfl (by decide +kernel) (by decide) (st0 := _) rfl (Nat.le_of_ble_eq_true rfl) dL_strikes_33 (fun r9 M10 => ?_)
  refine g_istore h (lv' := [(9, .int r9), (8, .int r7), (6, .long r5), (5, .int r3), (4, .int r1), (0, .ref (th ω 0 0)), (1, .int a1), (2, .int a2), (3, .int a3)]) dL_strikes_36 (by decide) [0, 1, 2, 3, 4, 5, 6, 7, 8] rfl ?_
  refine g_aload_n h 5 dL_strikes_38 rfl rfl ?_
  refine g_iload_n h 6 dL_strikes_39 rfl rfl ?_
  refine g_iload_n h 7 dL_strikes_40 rfl rfl ?_
  refine g_iload_n h 8 dL_strikes_41 rfl rfl ?_
  refine g_callI h (As := [.int a1, .int a2, .int a3]) (fun t => t) (fun r t hG => c_X5_strike l ω _ a1 a2 a3 hG) iC_0_0 (C := RX5) (T := TX5) (N := 8) rfl 3 rfl gL_strikes_X5_strike rfl rfl rfl (by decide +kernel) (by decide) (st0 := _) rfl (Nat.le_of_ble_eq_true rfl) dL_strikes_42 (fun r11 M12 => ?_)
  refine g_istore h (lv' := [(10, .int r11), (9, .int r9), (8, .int r7), (6, .long r5), (5, .int r3), (4, .int r1), (0, .ref (th ω 0 0)), (1, .int a1), (2, .int a2), (3, .int a3)]) dL_strikes_45 (by decide) [0, 1, 2, 3, 4, 5, 6, 7, 8, 9] rfl ?_
  refine g_iload h 0 dL_strikes_47 rfl ?_
  refine g_if_ge h 82 dL_strikes_49 (by decide) (fun hc13 => ?_) (fun hc13 => ?_)
  · skip
    refine g_iload h 0 dL_strikes_82 rfl ?_
    refine g_iload h 5 dL_strikes_84 rfl ?_
    refine g_icmp_ne h 239 dL_strikes_86 (by decide) (fun hc14 => ?_) (fun hc14 => ?_)
    · skip
      refine g_aload_n h 6 dL_strikes_89 rfl rfl ?_
      refine g_bipush h 6 dL_strikes_90 (by decide) ?_
      refine g_callI h (As := [.int 6]) (fun t => t) (fun r t hG => c_X5_count l ω _ 6 hG) iC_0_0 (C := RX5) (T := TX5) (N := 8) rfl 1 rfl gL_strikes_X5_count rfl rfl rfl (by decide +kernel) (by decide) (st0 := _) rfl (Nat.le_of_ble_eq_true rfl) dL_strikes_92 (fun r15 M16 => ?_)
      refine g_iload h 2 dL_strikes_95 rfl ?_
      refine g_iconst h 1 dL_strikes_97 (by decide) ?_
      refine g_iadd h dL_strikes_98 ?_
      refine g_icmp_ne h 239 dL_strikes_99 (by decide) (fun hc17 => ?_) (fun hc17 => ?_)
      · skip
        refine g_aload_n h 6 dL_strikes_102 rfl rfl ?_
        refine g_iload_n h 7 dL_strikes_103 rfl rfl ?_
        refine g_bipush h 6 dL_strikes_104 (by decide) ?_
        refine g_callI h (As := [.int a1, .int 6]) (fun t => t) (fun r t hG => c_X5_conker l ω _ a1 6 hG) iC_0_0 (C := RX5) (T := TX5) (N := 8) rfl 2 rfl gL_strikes_X5_conker rfl rfl rfl (by decide +kernel) (by decide) (st0 := _) rfl (Nat.le_of_ble_eq_true rfl) dL_strikes_106 (fun r18 M19 => ?_)
        refine g_iconst h 2 dL_strikes_109 (by decide) ?_
        refine g_icmp_ne h 117 dL_strikes_110 (by decide) (fun hc20 => ?_) (fun hc20 => ?_)
        · skip
          refine g_iconst h 1 dL_strikes_113 (by decide) ?_
          refine g_goto h (tgt := 118) dL_strikes_114 (by decide) ?_
          refine g_sub (lv' := [(0, .ref (th ω 0 0)), (1, .int a1), (2, .int a2), (3, .int a3), (5, .int r3), (6, .long r5), (9, .int r9), (10, .int r11)]) [6, 7, 8, 9, 4, 3, 1, 0] rfl ?_
          exact b_L_strikes_118 h hR (CtOk.mono hcx (by omega)) _ _ _ _ _ _ _ _ _
        · skip
          refine g_iconst h 0 dL_strikes_117 (by decide) ?_
          refine g_sub (lv' := [(0, .ref (th ω 0 0)), (1, .int a1), (2, .int a2), (3, .int a3), (5, .int r3), (6, .long r5), (9, .int r9), (10, .int r11)]) [6, 7, 8, 9, 4, 3, 1, 0] rfl ?_
          exact b_L_strikes_118 h hR (CtOk.mono hcx (by omega)) _ _ _ _ _ _ _ _ _
      · skip
        refine g_sub (lv' := [(0, .ref (th ω 0 0)), (1, .int a1), (2, .int a2), (3, .int a3), (5, .int r3), (6, .long r5), (9, .int r9), (10, .int r11)]) [6, 7, 8, 9, 4, 3, 1, 0] rfl ?_
        exact b_L_strikes_239 h hR (CtOk.mono hcx (by omega)) _ _ _ _ _ _ _ _
    · skip
      refine g_sub (lv' := [(0, .ref (th ω 0 0)), (1, .int a1), (2, .int a2), (3, .int a3), (5, .int r3), (6, .long r5), (9, .int r9), (10, .int r11)]) [6, 7, 8, 9, 4, 3, 1, 0] rfl ?_
      exact b_L_strikes_239 h hR (CtOk.mono hcx (by omega)) _ _ _ _ _ _ _ _
  · skip
    refine g_iload h 0 dL_strikes_52 rfl ?_
    refine g_iload h 5 dL_strikes_54 rfl ?_
    refine g_icmp_ne h 80 dL_strikes_56 (by decide) (fun hc21 => ?_) (fun hc21 => ?_)
    · skip
      refine g_iload h 4 dL_strikes_59 rfl ?_
      refine g_iload h 0 dL_strikes_61 rfl ?_
      refine g_icmp_ne h 80 dL_strikes_63 (by decide) (fun hc22 => ?_) (fun hc22 => ?_)
      · skip
        refine g_aload_n h 6 dL_strikes_66 rfl rfl ?_
        refine g_callJ h (As := [.ref (th ω 0 0)]) (fun r t hG => c_L_print l ω _ hG) 1 rfl gL_strikes_L_print rfl rfl rfl (by decide +kernel) (by decide) (st0 := _) rfl (Nat.le_of_ble_eq_true rfl) dL_strikes_67 (fun r23 M24 => ?_)
        refine g_lload h 3 dL_strikes_70 rfl ?_
        refine g_lcmp h dL_strikes_72 ?_
        refine g_if_ne h 80 dL_strikes_73 (by decide) (fun hc25 => ?_) (fun hc25 => ?_)
        · skip
          refine g_iconst h 1 dL_strikes_76 (by decide) ?_
          refine g_goto h (tgt := 81) dL_strikes_77 (by decide) ?_
          exact g_iret hR (by decide) dL_strikes_81
        · skip
          refine g_iconst h 0 dL_strikes_80 (by decide) ?_
          exact g_iret hR (by decide) dL_strikes_81
      · skip
        refine g_iconst h 0 dL_strikes_80 (by decide) ?_
        exact g_iret hR (by decide) dL_strikes_81
    · skip
      refine g_iconst h 0 dL_strikes_80 (by decide) ?_
      exact g_iret hR (by decide) dL_strikes_81
set_option maxHeartbeats 4000000 in
set_option maxRecDepth 100000 in
theorem b_L_law_409 {Γ : Cx} {l : Launch} {ω : Wd} {N : Nat} {xs : Nat → Int32} {b : Nat} {ct : Nat} (hX : XOk Γ b N xs) (h : CxOk Γ l room_1 11 ω LC cL_law RL wsL_law) (hR : RetI Γ ω LC cL_law .boolean) (hcx : CtOk Γ (ct + 0)) : ∀ (b2 : Int32) (M : Mm), Gq ct Γ ω LC eI 409 [(2, .int b2)] [] M (m_L_law_409 N xs b2 M) := by
  intro b2 M
  unfold m_L_law_409
  refine g_iload_n h 0 dL_law_409 rfl rfl ?_
  exact g_nret hR (fun _ => rfl) dL_law_410
set_option maxHeartbeats 4000000 in
set_option maxRecDepth 100000 in
theorem b_L_law_402 {Γ : Cx} {l : Launch} {ω : Wd} {N : Nat} {xs : Nat → Int32} {b : Nat} {ct : Nat} {m : Nat} (hX : XOk Γ b N xs) (h : CxOk Γ l room_1 11 ω LC cL_law RL wsL_law) (hR : RetI Γ ω LC cL_law .boolean) (hcx : CtOk Γ (ct + 0 + m)) (κ31 : Int32 → Int32 → Mm → Option (Int32 × Mm)) (hκ31 : ∀ (ct' : Nat) (_ : CtOk Γ (ct' + m)) (b2 : Int32) (b3 : Int32) (M : Mm), Gq ct' Γ ω LC eI 31 [(0, .ref b), (1, .ref (th ω 0 0)), (2, .int b2), (3, .int b3)] [] M (κ31 b2 b3 M)) : ∀ (b3 : Int32) (s0 : Int32) (M : Mm), Gq ct Γ ω LC eI 402 [(0, .ref b), (1, .ref (th ω 0 0)), (3, .int b3)] [.int s0] M (m_L_law_402 N xs κ31 b3 s0 M) := by
  intro b3 s0 M
  unfold m_L_law_402
  refine g_istore_n h rfl (lv' := [(2, .int s0), (0, .ref b), (1, .ref (th ω 0 0)), (3, .int b3)]) dL_law_402 (by decide) [0, 1, 2, 3] rfl ?_
  refine g_iinc h (b3 + 1) (lv' := [(3, .int (b3 + 1)), (2, .int s0), (0, .ref b), (1, .ref (th ω 0 0))]) dL_law_403 3 rfl (congrArg (fun z => b3 + z) (by decide)) (by decide) [0, 1, 2, 3] rfl ?_
  refine g_goto h (tgt := 31) dL_law_406 (by decide) ?_
  refine g_sub (lv' := [(0, .ref b), (1, .ref (th ω 0 0)), (2, .int s0), (3, .int (b3 + 1))]) [2, 3, 1, 0] rfl ?_
  exact hκ31 _ (CtOk.mono hcx (by omega)) _ _ _
set_option maxHeartbeats 4000000 in
set_option maxRecDepth 100000 in
theorem b_L_law_401 {Γ : Cx} {l : Launch} {ω : Wd} {N : Nat} {xs : Nat → Int32} {b : Nat} {ct : Nat} {m : Nat} (hX : XOk Γ b N xs) (h : CxOk Γ l room_1 11 ω LC cL_law RL wsL_law) (hR : RetI Γ ω LC cL_law .boolean) (hcx : CtOk Γ (ct + 0 + m)) (κ31 : Int32 → Int32 → Mm → Option (Int32 × Mm)) (hκ31 : ∀ (ct' : Nat) (_ : CtOk Γ (ct' + m)) (b2 : Int32) (b3 : Int32) (M : Mm), Gq ct' Γ ω LC eI 31 [(0, .ref b), (1, .ref (th ω 0 0)), (2, .int b2), (3, .int b3)] [] M (κ31 b2 b3 M)) : ∀ (b3 : Int32) (M : Mm), Gq ct Γ ω LC eI 401 [(0, .ref b), (1, .ref (th ω 0 0)), (3, .int b3)] [] M (m_L_law_401 N xs κ31 b3 M) := by
  intro b3 M
  unfold m_L_law_401
  refine g_iconst h 0 dL_law_401 (by decide) ?_
  exact b_L_law_402 (m := m) hX h hR (CtOk.mono hcx (by omega)) _ hκ31 _ _ _
set_option maxHeartbeats 4000000 in
set_option maxRecDepth 100000 in
theorem b_L_law_397 {Γ : Cx} {l : Launch} {ω : Wd} {N : Nat} {xs : Nat → Int32} {b : Nat} {ct : Nat} {m : Nat} (hX : XOk Γ b N xs) (h : CxOk Γ l room_1 11 ω LC cL_law RL wsL_law) (hR : RetI Γ ω LC cL_law .boolean) (hcx : CtOk Γ (ct + 0 + m)) (κ31 : Int32 → Int32 → Mm → Option (Int32 × Mm)) (hκ31 : ∀ (ct' : Nat) (_ : CtOk Γ (ct' + m)) (b2 : Int32) (b3 : Int32) (M : Mm), Gq ct' Γ ω LC eI 31 [(0, .ref b), (1, .ref (th ω 0 0)), (2, .int b2), (3, .int b3)] [] M (κ31 b2 b3 M)) : ∀ (b3 : Int32) (M : Mm), Gq ct Γ ω LC eI 397 [(0, .ref b), (1, .ref (th ω 0 0)), (3, .int b3)] [] M (m_L_law_397 N xs κ31 b3 M) := by
  intro b3 M
  unfold m_L_law_397
  refine g_iconst h 1 dL_law_397 (by decide) ?_
  refine g_goto h (tgt := 402) dL_law_398 (by decide) ?_
  exact b_L_law_402 (m := m) hX h hR (CtOk.mono hcx (by omega)) _ hκ31 _ _ _
set_option maxHeartbeats 4000000 in
set_option maxRecDepth 100000 in
theorem b_L_law_291 {Γ : Cx} {l : Launch} {ω : Wd} {N : Nat} {xs : Nat → Int32} {b : Nat} {ct : Nat} {m : Nat} (hX : XOk Γ b N xs) (h : CxOk Γ l room_1 11 ω LC cL_law RL wsL_law) (hR : RetI Γ ω LC cL_law .boolean) (hcx : CtOk Γ (ct + 4 + m)) (κ31 : Int32 → Int32 → Mm → Option (Int32 × Mm)) (hκ31 : ∀ (ct' : Nat) (_ : CtOk Γ (ct' + m)) (b2 : Int32) (b3 : Int32) (M : Mm), Gq ct' Γ ω LC eI 31 [(0, .ref b), (1, .ref (th ω 0 0)), (2, .int b2), (3, .int b3)] [] M (κ31 b2 b3 M)) : ∀ (b2 : Int32) (b3 : Int32) (b4 : Int32) (b5 : Int32) (M : Mm), Gq ct Γ ω LC eI 291 [(0, .ref b), (1, .ref (th ω 0 0)), (2, .int b2), (3, .int b3), (4, .int b4), (5, .int b5)] [] M (m_L_law_291 N xs κ31 b2 b3 b4 b5 M) := by
  intro b2 b3 b4 b5 M
  unfold m_L_law_291
  refine g_iload_n h 2 dL_law_291 rfl rfl ?_
  refine g_if_eq h 401 dL_law_292 (by decide) (fun hc1 => ?_) (fun hc1 => ?_)
  · skip
    refine g_sub (lv' := [(0, .ref b), (1, .ref (th ω 0 0)), (3, .int b3)]) [0, 1, 3] rfl ?_
    exact b_L_law_401 (m := m) hX h hR (CtOk.mono hcx (by omega)) _ hκ31 _ _
  · skip
    refine g_aload_n h 1 dL_law_295 rfl rfl ?_
    refine g_callS h 1 (As := [.ref (th ω 0 0)]) (fun t => t) (CtOk.mono hcx (by omega)) (fun r t hG => c_L_hangs l ω _ hG) 1 rfl gL_law_L_hangs rfl rfl rfl (by decide +kernel) (by decide) (st0 := _) rfl (Nat.le_of_ble_eq_true rfl) dL_law_296 (fun r2 M3 => ?_)
    refine g_if_eq h 401 dL_law_299 (by decide) (fun hc4 => ?_) (fun hc4 => ?_)
    · skip
      refine g_sub (lv' := [(0, .ref b), (1, .ref (th ω 0 0)), (3, .int b3)]) [0, 1, 3] rfl ?_
      exact b_L_law_401 (m := m) hX h hR (CtOk.mono hcx (by omega)) _ hκ31 _ _
    · skip
      refine g_aload_n h 1 dL_law_302 rfl rfl ?_
      refine g_iload h 4 dL_law_303 rfl ?_
      refine g_iconst h 5 dL_law_305 (by decide) ?_
      refine g_ishr h dL_law_306 ?_
      refine g_bipush h 9 dL_law_307 (by decide) ?_
      refine g_callP h (As := [.int (b4 >>> (5 &&& 31)), .int 9]) (fun r t hG => c_L_low l ω M00 (b4 >>> (5 &&& 31)) 9 hG) 2 rfl gL_law_L_low rfl rfl rfl (by decide +kernel) (by decide) (st0 := _) rfl (Nat.le_of_ble_eq_true rfl) dL_law_309 (fun r5 => ?_)
      refine g_iload h 5 dL_law_312 rfl ?_
      refine g_iconst h 4 dL_law_314 (by decide) ?_
      refine g_ishr h dL_law_315 ?_
      refine g_bipush h 9 dL_law_316 (by decide) ?_
      refine g_callP h (As := [.int (b5 >>> (4 &&& 31)), .int 9]) (fun r t hG => c_L_low l ω M00 (b5 >>> (4 &&& 31)) 9 hG) 2 rfl gL_law_L_low rfl rfl rfl (by decide +kernel) (by decide) (st0 := _) rfl (Nat.le_of_ble_eq_true rfl) dL_law_318 (fun r6 => ?_)
      refine g_iconst h 1 dL_law_321 (by decide) ?_
      refine g_iload h 4 dL_law_322 rfl ?_
      refine g_bipush h 9 dL_law_324 (by decide) ?_
      refine g_ishr h dL_law_326 ?_
      refine g_bipush h 9 dL_law_327 (by decide) ?_
      refine g_callP h (As := [.int (b4 >>> (9 &&& 31)), .int 9]) (fun r t hG => c_L_low l ω M00 (b4 >>> (9 &&& 31)) 9 hG) 2 rfl gL_law_L_low rfl rfl rfl (by decide +kernel) (by decide) (st0 := _) rfl (Nat.le_of_ble_eq_true rfl) dL_law_329 (fun r7 => ?_)
      refine g_iadd h dL_law_332 ?_
      refine g_callS h 1 (As := [.ref (th ω 0 0), .int r5, .int r6, .int (1 + r7)]) (fun t => t) (CtOk.mono hcx (by omega)) (fun r t hG => c_L_strikes l ω _ r5 r6 (1 + r7) hG) 4 rfl gL_law_L_strikes rfl rfl rfl (by decide +kernel) (by decide) (st0 := _) rfl (Nat.le_of_ble_eq_true rfl) dL_law_333 (fun r8 M9 => ?_)
      refine g_if_eq h 401 dL_law_336 (by decide) (fun hc10 => ?_) (fun hc10 => ?_)
      · skip
        refine g_sub (lv' := [(0, .ref b), (1, .ref (th ω 0 0)), (3, .int b3)]) [0, 1, 3] rfl ?_
        exact b_L_law_401 (m := m) hX h hR (CtOk.mono hcx (by omega)) _ hκ31 _ _
      · skip
        refine g_aload_n h 1 dL_law_339 rfl rfl ?_
        refine g_iload h 5 dL_law_340 rfl ?_
        refine g_bipush h 6 dL_law_342 (by decide) ?_
        refine g_ishr h dL_law_344 ?_
        refine g_bipush h 9 dL_law_345 (by decide) ?_
        refine g_callP h (As := [.int (b5 >>> (6 &&& 31)), .int 9]) (fun r t hG => c_L_low l ω M00 (b5 >>> (6 &&& 31)) 9 hG) 2 rfl gL_law_L_low rfl rfl rfl (by decide +kernel) (by decide) (st0 := _) rfl (Nat.le_of_ble_eq_true rfl) dL_law_347 (fun r11 => ?_)
        refine g_iload h 4 dL_law_350 rfl ?_
        refine g_bipush h 7 dL_law_352 (by decide) ?_
        refine g_ishr h dL_law_354 ?_
        refine g_bipush h 9 dL_law_355 (by decide) ?_
        refine g_callP h (As := [.int (b4 >>> (7 &&& 31)), .int 9]) (fun r t hG => c_L_low l ω M00 (b4 >>> (7 &&& 31)) 9 hG) 2 rfl gL_law_L_low rfl rfl rfl (by decide +kernel) (by decide) (st0 := _) rfl (Nat.le_of_ble_eq_true rfl) dL_law_357 (fun r12 => ?_)
        refine g_iload h 5 dL_law_360 rfl ?_
        refine g_iconst h 2 dL_law_362 (by decide) ?_
        refine g_ishr h dL_law_363 ?_
        refine g_ldc h 65536 dL_law_364 (by decide +kernel) ?_
        refine g_callP h (As := [.int (b5 >>> (2 &&& 31)), .int 65536]) (fun r t hG => c_L_low l ω M00 (b5 >>> (2 &&& 31)) 65536 hG) 2 rfl gL_law_L_low rfl rfl rfl (by decide +kernel) (by decide) (st0 := _) rfl (Nat.le_of_ble_eq_true rfl) dL_law_366 (fun r13 => ?_)
        refine g_callS h 1 (As := [.ref (th ω 0 0), .int r11, .int r12, .int r13]) (fun t => t) (CtOk.mono hcx (by omega)) (fun r t hG => c_L_fights l ω _ r11 r12 r13 hG) 4 rfl gL_law_L_fights rfl rfl rfl (by decide +kernel) (by decide) (st0 := _) rfl (Nat.le_of_ble_eq_true rfl) dL_law_369 (fun r14 M15 => ?_)
        refine g_if_eq h 401 dL_law_372 (by decide) (fun hc16 => ?_) (fun hc16 => ?_)
        · skip
          refine g_sub (lv' := [(0, .ref b), (1, .ref (th ω 0 0)), (3, .int b3)]) [0, 1, 3] rfl ?_
          exact b_L_law_401 (m := m) hX h hR (CtOk.mono hcx (by omega)) _ hκ31 _ _
        · skip
          refine g_iload_n h 3 dL_law_375 rfl rfl ?_
          refine g_iconst h 5 dL_law_376 (by decide) ?_
          refine g_irem h dL_law_377 ?_
          refine g_if_gt h 397 dL_law_378 (by decide) (fun hc17 => ?_) (fun hc17 => ?_)
          · skip
            refine g_sub (lv' := [(0, .ref b), (1, .ref (th ω 0 0)), (3, .int b3)]) [0, 1, 3] rfl ?_
            exact b_L_law_397 (m := m) hX h hR (CtOk.mono hcx (by omega)) _ hκ31 _ _
          · skip
            refine g_aload_n h 1 dL_law_381 rfl rfl ?_
            refine g_iload h 4 dL_law_382 rfl ?_
            refine g_iconst h 3 dL_law_384 (by decide) ?_
            refine g_ishr h dL_law_385 ?_
            refine g_ldc h 65536 dL_law_386 (by decide +kernel) ?_
            refine g_callP h (As := [.int (b4 >>> (3 &&& 31)), .int 65536]) (fun r t hG => c_L_low l ω M00 (b4 >>> (3 &&& 31)) 65536 hG) 2 rfl gL_law_L_low rfl rfl rfl (by decide +kernel) (by decide) (st0 := _) rfl (Nat.le_of_ble_eq_true rfl) dL_law_388 (fun r18 => ?_)
            refine g_callS h 1 (As := [.ref (th ω 0 0), .int r18]) (fun t => t) (CtOk.mono hcx (by omega)) (fun r t hG => c_L_rounds l ω _ r18 hG) 2 rfl gL_law_L_rounds rfl rfl rfl (by decide +kernel) (by decide) (st0 := _) rfl (Nat.le_of_ble_eq_true rfl) dL_law_391 (fun r19 M20 => ?_)
            refine g_if_eq h 401 dL_law_394 (by decide) (fun hc21 => ?_) (fun hc21 => ?_)
            · skip
              refine g_sub (lv' := [(0, .ref b), (1, .ref (th ω 0 0)), (3, .int b3)]) [0, 1, 3] rfl ?_
              exact b_L_law_401 (m := m) hX h hR (CtOk.mono hcx (by omega)) _ hκ31 _ _
            · skip
              refine g_sub (lv' := [(0, .ref b), (1, .ref (th ω 0 0)), (3, .int b3)]) [0, 1, 3] rfl ?_
              exact b_L_law_397 (m := m) hX h hR (CtOk.mono hcx (by omega)) _ hκ31 _ _
set_option maxHeartbeats 4000000 in
set_option maxRecDepth 100000 in
theorem b_L_law_290 {Γ : Cx} {l : Launch} {ω : Wd} {N : Nat} {xs : Nat → Int32} {b : Nat} {ct : Nat} {m : Nat} (hX : XOk Γ b N xs) (h : CxOk Γ l room_1 11 ω LC cL_law RL wsL_law) (hR : RetI Γ ω LC cL_law .boolean) (hcx : CtOk Γ (ct + 4 + m)) (κ31 : Int32 → Int32 → Mm → Option (Int32 × Mm)) (hκ31 : ∀ (ct' : Nat) (_ : CtOk Γ (ct' + m)) (b2 : Int32) (b3 : Int32) (M : Mm), Gq ct' Γ ω LC eI 31 [(0, .ref b), (1, .ref (th ω 0 0)), (2, .int b2), (3, .int b3)] [] M (κ31 b2 b3 M)) : ∀ (b3 : Int32) (b4 : Int32) (b5 : Int32) (s0 : Int32) (M : Mm), Gq ct Γ ω LC eI 290 [(0, .ref b), (1, .ref (th ω 0 0)), (3, .int b3), (4, .int b4), (5, .int b5)] [.int s0] M (m_L_law_290 N xs κ31 b3 b4 b5 s0 M) := by
  intro b3 b4 b5 s0 M
  unfold m_L_law_290
  refine g_istore_n h rfl (lv' := [(2, .int s0), (0, .ref b), (1, .ref (th ω 0 0)), (3, .int b3), (4, .int b4), (5, .int b5)]) dL_law_290 (by decide) [0, 1, 2, 3, 4, 5] rfl ?_
  refine g_sub (lv' := [(0, .ref b), (1, .ref (th ω 0 0)), (2, .int s0), (3, .int b3), (4, .int b4), (5, .int b5)]) [1, 2, 0, 3, 4, 5] rfl ?_
  exact b_L_law_291 (m := m) hX h hR (CtOk.mono hcx (by omega)) _ hκ31 _ _ _ _ _
set_option maxHeartbeats 4000000 in
set_option maxRecDepth 100000 in
theorem b_L_law_289 {Γ : Cx} {l : Launch} {ω : Wd} {N : Nat} {xs : Nat → Int32} {b : Nat} {ct : Nat} {m : Nat} (hX : XOk Γ b N xs) (h : CxOk Γ l room_1 11 ω LC cL_law RL wsL_law) (hR : RetI Γ ω LC cL_law .boolean) (hcx : CtOk Γ (ct + 4 + m)) (κ31 : Int32 → Int32 → Mm → Option (Int32 × Mm)) (hκ31 : ∀ (ct' : Nat) (_ : CtOk Γ (ct' + m)) (b2 : Int32) (b3 : Int32) (M : Mm), Gq ct' Γ ω LC eI 31 [(0, .ref b), (1, .ref (th ω 0 0)), (2, .int b2), (3, .int b3)] [] M (κ31 b2 b3 M)) : ∀ (b3 : Int32) (b4 : Int32) (b5 : Int32) (M : Mm), Gq ct Γ ω LC eI 289 [(0, .ref b), (1, .ref (th ω 0 0)), (3, .int b3), (4, .int b4), (5, .int b5)] [] M (m_L_law_289 N xs κ31 b3 b4 b5 M) := by
  intro b3 b4 b5 M
  unfold m_L_law_289
  refine g_iconst h 0 dL_law_289 (by decide) ?_
  exact b_L_law_290 (m := m) hX h hR (CtOk.mono hcx (by omega)) _ hκ31 _ _ _ _ _
set_option maxHeartbeats 4000000 in
set_option maxRecDepth 100000 in
theorem b_L_law_259 {Γ : Cx} {l : Launch} {ω : Wd} {N : Nat} {xs : Nat → Int32} {b : Nat} {ct : Nat} {m : Nat} (hX : XOk Γ b N xs) (h : CxOk Γ l room_1 11 ω LC cL_law RL wsL_law) (hR : RetI Γ ω LC cL_law .boolean) (hcx : CtOk Γ (ct + 4 + m)) (κ31 : Int32 → Int32 → Mm → Option (Int32 × Mm)) (hκ31 : ∀ (ct' : Nat) (_ : CtOk Γ (ct' + m)) (b2 : Int32) (b3 : Int32) (M : Mm), Gq ct' Γ ω LC eI 31 [(0, .ref b), (1, .ref (th ω 0 0)), (2, .int b2), (3, .int b3)] [] M (κ31 b2 b3 M)) : ∀ (b3 : Int32) (b4 : Int32) (b5 : Int32) (j7 : Int64) (b10 : Int32) (s0 : Int32) (s1 : Int32) (M : Mm), Gq ct Γ ω LC eI 259 [(0, .ref b), (1, .ref (th ω 0 0)), (3, .int b3), (4, .int b4), (5, .int b5), (7, .long j7), (10, .int b10)] [.int s1, .int s0] M (m_L_law_259 N xs κ31 b3 b4 b5 j7 b10 s0 s1 M) := by
  intro b3 b4 b5 j7 b10 s0 s1 M
  unfold m_L_law_259
  refine g_icmp_ne h 289 dL_law_259 (by decide) (fun hc1 => ?_) (fun hc1 => ?_)
  · skip
    refine g_aload_n h 1 dL_law_262 rfl rfl ?_
    refine g_callJ h (As := [.ref (th ω 0 0)]) (fun r t hG => c_L_print l ω _ hG) 1 rfl gL_law_L_print rfl rfl rfl (by decide +kernel) (by decide) (st0 := _) rfl (Nat.le_of_ble_eq_true rfl) dL_law_263 (fun r2 M3 => ?_)
    refine g_lload h 5 dL_law_266 rfl ?_
    refine g_lcmp h dL_law_268 ?_
    refine g_if_ne h 289 dL_law_269 (by decide) (fun hc4 => ?_) (fun hc4 => ?_)
    · skip
      refine g_aload_n h 1 dL_law_272 rfl rfl ?_
      refine g_iload h 3 dL_law_273 rfl ?_
      refine g_iload h 4 dL_law_275 rfl ?_
      refine g_callS h 0 (As := [.ref (th ω 0 0), .int b4, .int b5]) (fun t => t) (CtOk.mono hcx (by omega)) (fun r t hG => c_L_act l ω _ b4 b5 hG) 3 rfl gL_law_L_act rfl rfl rfl (by decide +kernel) (by decide) (st0 := _) rfl (Nat.le_of_ble_eq_true rfl) dL_law_277 (fun r5 M6 => ?_)
      refine g_iload h 6 dL_law_280 rfl ?_
      refine g_icmp_ne h 289 dL_law_282 (by decide) (fun hc7 => ?_) (fun hc7 => ?_)
      · skip
        refine g_iconst h 1 dL_law_285 (by decide) ?_
        refine g_goto h (tgt := 290) dL_law_286 (by decide) ?_
        refine g_sub (lv' := [(0, .ref b), (1, .ref (th ω 0 0)), (3, .int b3), (4, .int b4), (5, .int b5)]) [0, 1, 2, 3, 4] rfl ?_
        exact b_L_law_290 (m := m) hX h hR (CtOk.mono hcx (by omega)) _ hκ31 _ _ _ _ _
      · skip
        refine g_sub (lv' := [(0, .ref b), (1, .ref (th ω 0 0)), (3, .int b3), (4, .int b4), (5, .int b5)]) [0, 1, 2, 3, 4] rfl ?_
        exact b_L_law_289 (m := m) hX h hR (CtOk.mono hcx (by omega)) _ hκ31 _ _ _ _
    · skip
      refine g_sub (lv' := [(0, .ref b), (1, .ref (th ω 0 0)), (3, .int b3), (4, .int b4), (5, .int b5)]) [0, 1, 2, 3, 4] rfl ?_
      exact b_L_law_289 (m := m) hX h hR (CtOk.mono hcx (by omega)) _ hκ31 _ _ _ _
  · skip
    refine g_sub (lv' := [(0, .ref b), (1, .ref (th ω 0 0)), (3, .int b3), (4, .int b4), (5, .int b5)]) [0, 1, 2, 3, 4] rfl ?_
    exact b_L_law_289 (m := m) hX h hR (CtOk.mono hcx (by omega)) _ hκ31 _ _ _ _
set_option maxHeartbeats 4000000 in
set_option maxRecDepth 100000 in
theorem b_L_law_221 {Γ : Cx} {l : Launch} {ω : Wd} {N : Nat} {xs : Nat → Int32} {b : Nat} {ct : Nat} {m : Nat} (hX : XOk Γ b N xs) (h : CxOk Γ l room_1 11 ω LC cL_law RL wsL_law) (hR : RetI Γ ω LC cL_law .boolean) (hcx : CtOk Γ (ct + 4 + m)) (κ31 : Int32 → Int32 → Mm → Option (Int32 × Mm)) (hκ31 : ∀ (ct' : Nat) (_ : CtOk Γ (ct' + m)) (b2 : Int32) (b3 : Int32) (M : Mm), Gq ct' Γ ω LC eI 31 [(0, .ref b), (1, .ref (th ω 0 0)), (2, .int b2), (3, .int b3)] [] M (κ31 b2 b3 M)) : ∀ (b3 : Int32) (b4 : Int32) (b5 : Int32) (b6 : Int32) (j7 : Int64) (b10 : Int32) (s0 : Int32) (M : Mm), Gq ct Γ ω LC eI 221 [(0, .ref b), (1, .ref (th ω 0 0)), (3, .int b3), (4, .int b4), (5, .int b5), (6, .int b6), (7, .long j7), (10, .int b10)] [.int s0] M (m_L_law_221 N xs κ31 b3 b4 b5 b6 j7 b10 s0 M) := by
  intro b3 b4 b5 b6 j7 b10 s0 M
  unfold m_L_law_221
  refine g_istore_n h rfl (lv' := [(2, .int s0), (0, .ref b), (1, .ref (th ω 0 0)), (3, .int b3), (4, .int b4), (5, .int b5), (6, .int b6), (7, .long j7), (10, .int b10)]) dL_law_221 (by decide) [0, 1, 2, 3, 4, 5, 6, 7, 8] rfl ?_
  refine g_iload_n h 0 dL_law_222 rfl rfl ?_
  refine g_if_eq h 291 dL_law_223 (by decide) (fun hc1 => ?_) (fun hc1 => ?_)
  · skip
    refine g_sub (lv' := [(0, .ref b), (1, .ref (th ω 0 0)), (2, .int s0), (3, .int b3), (4, .int b4), (5, .int b5)]) [1, 2, 0, 3, 4, 5] rfl ?_
    exact b_L_law_291 (m := m) hX h hR (CtOk.mono hcx (by omega)) _ hκ31 _ _ _ _ _
  · skip
    refine g_iload_n h 3 dL_law_226 rfl rfl ?_
    refine g_bipush h 7 dL_law_227 (by decide) ?_
    refine g_icmp_le h 291 dL_law_229 (by decide) (fun hc2 => ?_) (fun hc2 => ?_)
    · skip
      refine g_sub (lv' := [(0, .ref b), (1, .ref (th ω 0 0)), (2, .int s0), (3, .int b3), (4, .int b4), (5, .int b5)]) [1, 2, 0, 3, 4, 5] rfl ?_
      exact b_L_law_291 (m := m) hX h hR (CtOk.mono hcx (by omega)) _ hκ31 _ _ _ _ _
    · skip
      refine g_iload h 5 dL_law_232 rfl ?_
      refine g_iconst h 5 dL_law_234 (by decide) ?_
      refine g_ishr h dL_law_235 ?_
      refine g_iconst h 4 dL_law_236 (by decide) ?_
      refine g_callP h (As := [.int (b5 >>> (5 &&& 31)), .int 4]) (fun r t hG => c_L_low l ω M00 (b5 >>> (5 &&& 31)) 4 hG) 2 rfl gL_law_L_low rfl rfl rfl (by decide +kernel) (by decide) (st0 := _) rfl (Nat.le_of_ble_eq_true rfl) dL_law_237 (fun r3 => ?_)
      refine g_if_ne h 291 dL_law_240 (by decide) (fun hc4 => ?_) (fun hc4 => ?_)
      · skip
        refine g_aload_n h 2 dL_law_243 rfl rfl ?_
        refine g_callI h (As := []) (fun t => t) (fun r t hG => c_X5_undo l ω _ hG) iC_0_0 (C := RX5) (T := TX5) (N := 8) rfl 0 rfl gL_law_X5_undo rfl rfl rfl (by decide +kernel) (by decide) (st0 := _) rfl (Nat.le_of_ble_eq_true rfl) dL_law_244 (fun r5 M6 => ?_)
        refine g_iload h 6 dL_law_247 rfl ?_
        refine g_iconst h 5 dL_law_249 (by decide) ?_
        refine g_icmp_ge h 258 dL_law_250 (by decide) (fun hc7 => ?_) (fun hc7 => ?_)
        · skip
          refine g_iconst h 4 dL_law_258 (by decide) ?_
          refine g_sub (lv' := [(0, .ref b), (1, .ref (th ω 0 0)), (3, .int b3), (4, .int b4), (5, .int b5), (7, .long j7), (10, .int b10)]) [1, 2, 3, 4, 5, 7, 8] rfl ?_
          exact b_L_law_259 (m := m) hX h hR (CtOk.mono hcx (by omega)) _ hκ31 _ _ _ _ _ _ _ _
        · skip
          refine g_iload h 6 dL_law_253 rfl ?_
          refine g_goto h (tgt := 259) dL_law_255 (by decide) ?_
          refine g_sub (lv' := [(0, .ref b), (1, .ref (th ω 0 0)), (3, .int b3), (4, .int b4), (5, .int b5), (7, .long j7), (10, .int b10)]) [1, 2, 3, 4, 5, 7, 8] rfl ?_
          exact b_L_law_259 (m := m) hX h hR (CtOk.mono hcx (by omega)) _ hκ31 _ _ _ _ _ _ _ _
      · skip
        refine g_sub (lv' := [(0, .ref b), (1, .ref (th ω 0 0)), (2, .int s0), (3, .int b3), (4, .int b4), (5, .int b5)]) [1, 2, 0, 3, 4, 5] rfl ?_
        exact b_L_law_291 (m := m) hX h hR (CtOk.mono hcx (by omega)) _ hκ31 _ _ _ _ _
set_option maxHeartbeats 4000000 in
set_option maxRecDepth 100000 in
theorem b_L_law_213 {Γ : Cx} {l : Launch} {ω : Wd} {N : Nat} {xs : Nat → Int32} {b : Nat} {ct : Nat} {m : Nat} (hX : XOk Γ b N xs) (h : CxOk Γ l room_1 11 ω LC cL_law RL wsL_law) (hR : RetI Γ ω LC cL_law .boolean) (hcx : CtOk Γ (ct + 4 + m)) (κ31 : Int32 → Int32 → Mm → Option (Int32 × Mm)) (hκ31 : ∀ (ct' : Nat) (_ : CtOk Γ (ct' + m)) (b2 : Int32) (b3 : Int32) (M : Mm), Gq ct' Γ ω LC eI 31 [(0, .ref b), (1, .ref (th ω 0 0)), (2, .int b2), (3, .int b3)] [] M (κ31 b2 b3 M)) : ∀ (b3 : Int32) (b4 : Int32) (b5 : Int32) (b6 : Int32) (j7 : Int64) (b10 : Int32) (s0 : Int32) (s1 : Int32) (M : Mm), Gq ct Γ ω LC eI 213 [(0, .ref b), (1, .ref (th ω 0 0)), (3, .int b3), (4, .int b4), (5, .int b5), (6, .int b6), (7, .long j7), (10, .int b10)] [.int s1, .int s0] M (m_L_law_213 N xs κ31 b3 b4 b5 b6 j7 b10 s0 s1 M) := by
  intro b3 b4 b5 b6 j7 b10 s0 s1 M
  unfold m_L_law_213
  refine g_icmp_ne h 220 dL_law_213 (by decide) (fun hc1 => ?_) (fun hc1 => ?_)
  · skip
    refine g_iconst h 1 dL_law_216 (by decide) ?_
    refine g_goto h (tgt := 221) dL_law_217 (by decide) ?_
    exact b_L_law_221 (m := m) hX h hR (CtOk.mono hcx (by omega)) _ hκ31 _ _ _ _ _ _ _ _
  · skip
    refine g_iconst h 0 dL_law_220 (by decide) ?_
    exact b_L_law_221 (m := m) hX h hR (CtOk.mono hcx (by omega)) _ hκ31 _ _ _ _ _ _ _ _
set_option maxHeartbeats 4000000 in
set_option maxRecDepth 100000 in
theorem b_L_law_193 {Γ : Cx} {l : Launch} {ω : Wd} {N : Nat} {xs : Nat → Int32} {b : Nat} {ct : Nat} {m : Nat} (hX : XOk Γ b N xs) (h : CxOk Γ l room_1 11 ω LC cL_law RL wsL_law) (hR : RetI Γ ω LC cL_law .boolean) (hcx : CtOk Γ (ct + 4 + m)) (κ31 : Int32 → Int32 → Mm → Option (Int32 × Mm)) (hκ31 : ∀ (ct' : Nat) (_ : CtOk Γ (ct' + m)) (b2 : Int32) (b3 : Int32) (M : Mm), Gq ct' Γ ω LC eI 31 [(0, .ref b), (1, .ref (th ω 0 0)), (2, .int b2), (3, .int b3)] [] M (κ31 b2 b3 M)) : ∀ (b3 : Int32) (b4 : Int32) (b5 : Int32) (b6 : Int32) (j7 : Int64) (b10 : Int32) (M : Mm), Gq ct Γ ω LC eI 193 [(0, .ref b), (1, .ref (th ω 0 0)), (3, .int b3), (4, .int b4), (5, .int b5), (6, .int b6), (7, .long j7), (10, .int b10)] [] M (m_L_law_193 N xs κ31 b3 b4 b5 b6 j7 b10 M) := by
  intro b3 b4 b5 b6 j7 b10 M
  unfold m_L_law_193
  refine g_aload_n h 1 dL_law_193 rfl rfl ?_
  refine g_bipush h 10 dL_law_194 (by decide) ?_
  refine g_callI h (As := [.int 10]) (fun t => t) (fun r t hG => c_X5_count l ω _ 10 hG) iC_0_0 (C := RX5) (T := TX5) (N := 8) rfl 1 rfl gL_law_X5_count rfl rfl rfl (by decide +kernel) (by decide) (st0 := _) rfl (Nat.le_of_ble_eq_true rfl) dL_law_196 (fun r1 M2 => ?_)
  refine g_iload h 5 dL_law_199 rfl ?_
  refine g_iconst h 5 dL_law_201 (by decide) ?_
  refine g_icmp_ge h 212 dL_law_202 (by decide) (fun hc3 => ?_) (fun hc3 => ?_)
  · skip
    refine g_iconst h 5 dL_law_212 (by decide) ?_
    exact b_L_law_213 (m := m) hX h hR (CtOk.mono hcx (by omega)) _ hκ31 _ _ _ _ _ _ _ _ _
  · skip
    refine g_iload h 5 dL_law_205 rfl ?_
    refine g_iconst h 1 dL_law_207 (by decide) ?_
    refine g_iadd h dL_law_208 ?_
    refine g_goto h (tgt := 213) dL_law_209 (by decide) ?_
    exact b_L_law_213 (m := m) hX h hR (CtOk.mono hcx (by omega)) _ hκ31 _ _ _ _ _ _ _ _ _
set_option maxHeartbeats 4000000 in
set_option maxRecDepth 100000 in
theorem b_L_law_189 {Γ : Cx} {l : Launch} {ω : Wd} {N : Nat} {xs : Nat → Int32} {b : Nat} {ct : Nat} {m : Nat} (hX : XOk Γ b N xs) (h : CxOk Γ l room_1 11 ω LC cL_law RL wsL_law) (hR : RetI Γ ω LC cL_law .boolean) (hcx : CtOk Γ (ct + 4 + m)) (κ31 : Int32 → Int32 → Mm → Option (Int32 × Mm)) (hκ31 : ∀ (ct' : Nat) (_ : CtOk Γ (ct' + m)) (b2 : Int32) (b3 : Int32) (M : Mm), Gq ct' Γ ω LC eI 31 [(0, .ref b), (1, .ref (th ω 0 0)), (2, .int b2), (3, .int b3)] [] M (κ31 b2 b3 M)) : ∀ (b3 : Int32) (b4 : Int32) (b5 : Int32) (s0 : Int32) (M : Mm), Gq ct Γ ω LC eI 189 [(0, .ref b), (1, .ref (th ω 0 0)), (3, .int b3), (4, .int b4), (5, .int b5)] [.int s0] M (m_L_law_189 N xs κ31 b3 b4 b5 s0 M) := by
  intro b3 b4 b5 s0 M
  unfold m_L_law_189
  refine g_istore_n h rfl (lv' := [(2, .int s0), (0, .ref b), (1, .ref (th ω 0 0)), (3, .int b3), (4, .int b4), (5, .int b5)]) dL_law_189 (by decide) [0, 1, 2, 3, 4, 5] rfl ?_
  refine g_goto h (tgt := 291) dL_law_190 (by decide) ?_
  refine g_sub (lv' := [(0, .ref b), (1, .ref (th ω 0 0)), (2, .int s0), (3, .int b3), (4, .int b4), (5, .int b5)]) [1, 2, 0, 3, 4, 5] rfl ?_
  exact b_L_law_291 (m := m) hX h hR (CtOk.mono hcx (by omega)) _ hκ31 _ _ _ _ _
set_option maxHeartbeats 4000000 in
set_option maxRecDepth 100000 in
theorem b_L_law_188 {Γ : Cx} {l : Launch} {ω : Wd} {N : Nat} {xs : Nat → Int32} {b : Nat} {ct : Nat} {m : Nat} (hX : XOk Γ b N xs) (h : CxOk Γ l room_1 11 ω LC cL_law RL wsL_law) (hR : RetI Γ ω LC cL_law .boolean) (hcx : CtOk Γ (ct + 4 + m)) (κ31 : Int32 → Int32 → Mm → Option (Int32 × Mm)) (hκ31 : ∀ (ct' : Nat) (_ : CtOk Γ (ct' + m)) (b2 : Int32) (b3 : Int32) (M : Mm), Gq ct' Γ ω LC eI 31 [(0, .ref b), (1, .ref (th ω 0 0)), (2, .int b2), (3, .int b3)] [] M (κ31 b2 b3 M)) : ∀ (b3 : Int32) (b4 : Int32) (b5 : Int32) (M : Mm), Gq ct Γ ω LC eI 188 [(0, .ref b), (1, .ref (th ω 0 0)), (3, .int b3), (4, .int b4), (5, .int b5)] [] M (m_L_law_188 N xs κ31 b3 b4 b5 M) := by
  intro b3 b4 b5 M
  unfold m_L_law_188
  refine g_iconst h 0 dL_law_188 (by decide) ?_
  exact b_L_law_189 (m := m) hX h hR (CtOk.mono hcx (by omega)) _ hκ31 _ _ _ _ _
set_option maxHeartbeats 4000000 in
set_option maxRecDepth 100000 in
theorem b_L_law_163 {Γ : Cx} {l : Launch} {ω : Wd} {N : Nat} {xs : Nat → Int32} {b : Nat} {ct : Nat} {m : Nat} (hX : XOk Γ b N xs) (h : CxOk Γ l room_1 11 ω LC cL_law RL wsL_law) (hR : RetI Γ ω LC cL_law .boolean) (hcx : CtOk Γ (ct + 4 + m)) (κ31 : Int32 → Int32 → Mm → Option (Int32 × Mm)) (hκ31 : ∀ (ct' : Nat) (_ : CtOk Γ (ct' + m)) (b2 : Int32) (b3 : Int32) (M : Mm), Gq ct' Γ ω LC eI 31 [(0, .ref b), (1, .ref (th ω 0 0)), (2, .int b2), (3, .int b3)] [] M (κ31 b2 b3 M)) : ∀ (b3 : Int32) (b4 : Int32) (b5 : Int32) (b6 : Int32) (j7 : Int64) (M : Mm), Gq ct Γ ω LC eI 163 [(0, .ref b), (1, .ref (th ω 0 0)), (3, .int b3), (4, .int b4), (5, .int b5), (6, .int b6), (7, .long j7)] [] M (m_L_law_163 N xs κ31 b3 b4 b5 b6 j7 M) := by
  intro b3 b4 b5 b6 j7 M
  unfold m_L_law_163
  refine g_aload_n h 1 dL_law_163 rfl rfl ?_
  refine g_bipush h 10 dL_law_164 (by decide) ?_
  refine g_callI h (As := [.int 10]) (fun t => t) (fun r t hG => c_X5_count l ω _ 10 hG) iC_0_0 (C := RX5) (T := TX5) (N := 8) rfl 1 rfl gL_law_X5_count rfl rfl rfl (by decide +kernel) (by decide) (st0 := _) rfl (Nat.le_of_ble_eq_true rfl) dL_law_166 (fun r1 M2 => ?_)
  refine g_iload h 5 dL_law_169 rfl ?_
  refine g_icmp_ne h 188 dL_law_171 (by decide) (fun hc3 => ?_) (fun hc3 => ?_)
  · skip
    refine g_aload_n h 1 dL_law_174 rfl rfl ?_
    refine g_callJ h (As := [.ref (th ω 0 0)]) (fun r t hG => c_L_print l ω _ hG) 1 rfl gL_law_L_print rfl rfl rfl (by decide +kernel) (by decide) (st0 := _) rfl (Nat.le_of_ble_eq_true rfl) dL_law_175 (fun r4 M5 => ?_)
    refine g_lload h 6 dL_law_178 rfl ?_
    refine g_lcmp h dL_law_180 ?_
    refine g_if_ne h 188 dL_law_181 (by decide) (fun hc6 => ?_) (fun hc6 => ?_)
    · skip
      refine g_iconst h 1 dL_law_184 (by decide) ?_
      refine g_goto h (tgt := 189) dL_law_185 (by decide) ?_
      refine g_sub (lv' := [(0, .ref b), (1, .ref (th ω 0 0)), (3, .int b3), (4, .int b4), (5, .int b5)]) [0, 1, 2, 3, 4] rfl ?_
      exact b_L_law_189 (m := m) hX h hR (CtOk.mono hcx (by omega)) _ hκ31 _ _ _ _ _
    · skip
      refine g_sub (lv' := [(0, .ref b), (1, .ref (th ω 0 0)), (3, .int b3), (4, .int b4), (5, .int b5)]) [0, 1, 2, 3, 4] rfl ?_
      exact b_L_law_188 (m := m) hX h hR (CtOk.mono hcx (by omega)) _ hκ31 _ _ _ _
  · skip
    refine g_sub (lv' := [(0, .ref b), (1, .ref (th ω 0 0)), (3, .int b3), (4, .int b4), (5, .int b5)]) [0, 1, 2, 3, 4] rfl ?_
    exact b_L_law_188 (m := m) hX h hR (CtOk.mono hcx (by omega)) _ hκ31 _ _ _ _
set_option maxHeartbeats 4000000 in
set_option maxRecDepth 100000 in
theorem b_L_law_144 {Γ : Cx} {l : Launch} {ω : Wd} {N : Nat} {xs : Nat → Int32} {b : Nat} {ct : Nat} {m : Nat} (hX : XOk Γ b N xs) (h : CxOk Γ l room_1 11 ω LC cL_law RL wsL_law) (hR : RetI Γ ω LC cL_law .boolean) (hcx : CtOk Γ (ct + 4 + m)) (κ31 : Int32 → Int32 → Mm → Option (Int32 × Mm)) (hκ31 : ∀ (ct' : Nat) (_ : CtOk Γ (ct' + m)) (b2 : Int32) (b3 : Int32) (M : Mm), Gq ct' Γ ω LC eI 31 [(0, .ref b), (1, .ref (th ω 0 0)), (2, .int b2), (3, .int b3)] [] M (κ31 b2 b3 M)) : ∀ (b3 : Int32) (b4 : Int32) (b5 : Int32) (b6 : Int32) (j7 : Int64) (b9 : Int32) (s0 : Int32) (M : Mm), Gq ct Γ ω LC eI 144 [(0, .ref b), (1, .ref (th ω 0 0)), (3, .int b3), (4, .int b4), (5, .int b5), (6, .int b6), (7, .long j7), (9, .int b9)] [.int s0] M (m_L_law_144 N xs κ31 b3 b4 b5 b6 j7 b9 s0 M) := by
  intro b3 b4 b5 b6 j7 b9 s0 M
  unfold m_L_law_144
  refine g_istore h (lv' := [(10, .int s0), (0, .ref b), (1, .ref (th ω 0 0)), (3, .int b3), (4, .int b4), (5, .int b5), (6, .int b6), (7, .long j7), (9, .int b9)]) dL_law_144 (by decide) [0, 1, 2, 3, 4, 5, 6, 7, 8] rfl ?_
  refine g_iload h 0 dL_law_146 rfl ?_
  refine g_if_ge h 193 dL_law_148 (by decide) (fun hc1 => ?_) (fun hc1 => ?_)
  · skip
    refine g_sub (lv' := [(0, .ref b), (1, .ref (th ω 0 0)), (3, .int b3), (4, .int b4), (5, .int b5), (6, .int b6), (7, .long j7), (10, .int s0)]) [1, 2, 3, 4, 5, 6, 7, 0] rfl ?_
    exact b_L_law_193 (m := m) hX h hR (CtOk.mono hcx (by omega)) _ hκ31 _ _ _ _ _ _ _
  · skip
    refine g_iload h 8 dL_law_151 rfl ?_
    refine g_if_eq h 163 dL_law_153 (by decide) (fun hc2 => ?_) (fun hc2 => ?_)
    · skip
      refine g_sub (lv' := [(0, .ref b), (1, .ref (th ω 0 0)), (3, .int b3), (4, .int b4), (5, .int b5), (6, .int b6), (7, .long j7)]) [1, 2, 3, 4, 5, 6, 7] rfl ?_
      exact b_L_law_163 (m := m) hX h hR (CtOk.mono hcx (by omega)) _ hκ31 _ _ _ _ _ _
    · skip
      refine g_iload h 0 dL_law_156 rfl ?_
      refine g_bipush h (-5) dL_law_158 (by decide) ?_
      refine g_icmp_eq h 193 dL_law_160 (by decide) (fun hc3 => ?_) (fun hc3 => ?_)
      · skip
        refine g_sub (lv' := [(0, .ref b), (1, .ref (th ω 0 0)), (3, .int b3), (4, .int b4), (5, .int b5), (6, .int b6), (7, .long j7), (10, .int s0)]) [1, 2, 3, 4, 5, 6, 7, 0] rfl ?_
        exact b_L_law_193 (m := m) hX h hR (CtOk.mono hcx (by omega)) _ hκ31 _ _ _ _ _ _ _
      · skip
        refine g_sub (lv' := [(0, .ref b), (1, .ref (th ω 0 0)), (3, .int b3), (4, .int b4), (5, .int b5), (6, .int b6), (7, .long j7)]) [1, 2, 3, 4, 5, 6, 7] rfl ?_
        exact b_L_law_163 (m := m) hX h hR (CtOk.mono hcx (by omega)) _ hκ31 _ _ _ _ _ _
set_option maxHeartbeats 4000000 in
set_option maxRecDepth 100000 in
theorem b_L_law_109 {Γ : Cx} {l : Launch} {ω : Wd} {N : Nat} {xs : Nat → Int32} {b : Nat} {ct : Nat} {m : Nat} (hX : XOk Γ b N xs) (h : CxOk Γ l room_1 11 ω LC cL_law RL wsL_law) (hR : RetI Γ ω LC cL_law .boolean) (hcx : CtOk Γ (ct + 4 + m)) (κ31 : Int32 → Int32 → Mm → Option (Int32 × Mm)) (hκ31 : ∀ (ct' : Nat) (_ : CtOk Γ (ct' + m)) (b2 : Int32) (b3 : Int32) (M : Mm), Gq ct' Γ ω LC eI 31 [(0, .ref b), (1, .ref (th ω 0 0)), (2, .int b2), (3, .int b3)] [] M (κ31 b2 b3 M)) : ∀ (b3 : Int32) (b4 : Int32) (b5 : Int32) (b6 : Int32) (j7 : Int64) (s0 : Int32) (M : Mm), Gq ct Γ ω LC eI 109 [(0, .ref b), (1, .ref (th ω 0 0)), (3, .int b3), (4, .int b4), (5, .int b5), (6, .int b6), (7, .long j7)] [.int s0] M (m_L_law_109 N xs κ31 b3 b4 b5 b6 j7 s0 M) := by
  intro b3 b4 b5 b6 j7 s0 M
  unfold m_L_law_109
  refine g_istore h (lv' := [(9, .int s0), (0, .ref b), (1, .ref (th ω 0 0)), (3, .int b3), (4, .int b4), (5, .int b5), (6, .int b6), (7, .long j7)]) dL_law_109 (by decide) [0, 1, 2, 3, 4, 5, 6, 7] rfl ?_
  refine g_iload_n h 3 dL_law_111 rfl rfl ?_
  refine g_bipush h 8 dL_law_112 (by decide) ?_
  refine g_icmp_ge h 136 dL_law_114 (by decide) (fun hc1 => ?_) (fun hc1 => ?_)
  · skip
    refine g_aload_n h 2 dL_law_136 rfl rfl ?_
    refine g_iload h 4 dL_law_137 rfl ?_
    refine g_iload h 5 dL_law_139 rfl ?_
    refine g_callS h 0 (As := [.ref (th ω 0 0), .int b4, .int b5]) (fun t => t) (CtOk.mono hcx (by omega)) (fun r t hG => c_L_act l ω _ b4 b5 hG) 3 rfl gL_law_L_act rfl rfl rfl (by decide +kernel) (by decide) (st0 := _) rfl (Nat.le_of_ble_eq_true rfl) dL_law_141 (fun r2 M3 => ?_)
    refine g_sub (lv' := [(0, .ref b), (1, .ref (th ω 0 0)), (3, .int b3), (4, .int b4), (5, .int b5), (6, .int b6), (7, .long j7), (9, .int s0)]) [1, 2, 3, 4, 5, 6, 7, 0] rfl ?_
    exact b_L_law_144 (m := m) hX h hR (CtOk.mono hcx (by omega)) _ hκ31 _ _ _ _ _ _ _ _
  · skip
    refine g_aload_n h 2 dL_law_117 rfl rfl ?_
    refine g_iload_n h 3 dL_law_118 rfl rfl ?_
    refine g_iconst h 4 dL_law_119 (by decide) ?_
    refine g_irem h dL_law_120 ?_
    refine g_iconst h 1 dL_law_121 (by decide) ?_
    refine g_iload h 5 dL_law_122 rfl ?_
    refine g_bipush h 9 dL_law_124 (by decide) ?_
    refine g_callP h (As := [.int b5, .int 9]) (fun r t hG => c_L_low l ω M00 b5 9 hG) 2 rfl gL_law_L_low rfl rfl rfl (by decide +kernel) (by decide) (st0 := _) rfl (Nat.le_of_ble_eq_true rfl) dL_law_126 (fun r4 => ?_)
    refine g_iadd h dL_law_129 ?_
    refine g_callI h (As := [.int (b3 - b3 / 4 * 4), .int (1 + r4)]) (fun t => t) (fun r t hG => c_X5_thread l ω _ (b3 - b3 / 4 * 4) (1 + r4) hG) iC_0_0 (C := RX5) (T := TX5) (N := 8) rfl 2 rfl gL_law_X5_thread rfl rfl rfl (by decide +kernel) (by decide) (st0 := _) rfl (Nat.le_of_ble_eq_true rfl) dL_law_130 (fun r5 M6 => ?_)
    refine g_goto h (tgt := 144) dL_law_133 (by decide) ?_
    refine g_sub (lv' := [(0, .ref b), (1, .ref (th ω 0 0)), (3, .int b3), (4, .int b4), (5, .int b5), (6, .int b6), (7, .long j7), (9, .int s0)]) [1, 2, 3, 4, 5, 6, 7, 0] rfl ?_
    exact b_L_law_144 (m := m) hX h hR (CtOk.mono hcx (by omega)) _ hκ31 _ _ _ _ _ _ _ _
set_option maxHeartbeats 4000000 in
set_option maxRecDepth 100000 in
theorem b_L_law_108 {Γ : Cx} {l : Launch} {ω : Wd} {N : Nat} {xs : Nat → Int32} {b : Nat} {ct : Nat} {m : Nat} (hX : XOk Γ b N xs) (h : CxOk Γ l room_1 11 ω LC cL_law RL wsL_law) (hR : RetI Γ ω LC cL_law .boolean) (hcx : CtOk Γ (ct + 4 + m)) (κ31 : Int32 → Int32 → Mm → Option (Int32 × Mm)) (hκ31 : ∀ (ct' : Nat) (_ : CtOk Γ (ct' + m)) (b2 : Int32) (b3 : Int32) (M : Mm), Gq ct' Γ ω LC eI 31 [(0, .ref b), (1, .ref (th ω 0 0)), (2, .int b2), (3, .int b3)] [] M (κ31 b2 b3 M)) : ∀ (b3 : Int32) (b4 : Int32) (b5 : Int32) (b6 : Int32) (j7 : Int64) (M : Mm), Gq ct Γ ω LC eI 108 [(0, .ref b), (1, .ref (th ω 0 0)), (3, .int b3), (4, .int b4), (5, .int b5), (6, .int b6), (7, .long j7)] [] M (m_L_law_108 N xs κ31 b3 b4 b5 b6 j7 M) := by
  intro b3 b4 b5 b6 j7 M
  unfold m_L_law_108
  refine g_iconst h 0 dL_law_108 (by decide) ?_
  exact b_L_law_109 (m := m) hX h hR (CtOk.mono hcx (by omega)) _ hκ31 _ _ _ _ _ _ _
set_option maxHeartbeats 4000000 in
set_option maxRecDepth 100000 in
theorem b_L_law_104 {Γ : Cx} {l : Launch} {ω : Wd} {N : Nat} {xs : Nat → Int32} {b : Nat} {ct : Nat} {m : Nat} (hX : XOk Γ b N xs) (h : CxOk Γ l room_1 11 ω LC cL_law RL wsL_law) (hR : RetI Γ ω LC cL_law .boolean) (hcx : CtOk Γ (ct + 4 + m)) (κ31 : Int32 → Int32 → Mm → Option (Int32 × Mm)) (hκ31 : ∀ (ct' : Nat) (_ : CtOk Γ (ct' + m)) (b2 : Int32) (b3 : Int32) (M : Mm), Gq ct' Γ ω LC eI 31 [(0, .ref b), (1, .ref (th ω 0 0)), (2, .int b2), (3, .int b3)] [] M (κ31 b2 b3 M)) : ∀ (b3 : Int32) (b4 : Int32) (b5 : Int32) (b6 : Int32) (j7 : Int64) (M : Mm), Gq ct Γ ω LC eI 104 [(0, .ref b), (1, .ref (th ω 0 0)), (3, .int b3), (4, .int b4), (5, .int b5), (6, .int b6), (7, .long j7)] [] M (m_L_law_104 N xs κ31 b3 b4 b5 b6 j7 M) := by
  intro b3 b4 b5 b6 j7 M
  unfold m_L_law_104
  refine g_iconst h 1 dL_law_104 (by decide) ?_
  refine g_goto h (tgt := 109) dL_law_105 (by decide) ?_
  exact b_L_law_109 (m := m) hX h hR (CtOk.mono hcx (by omega)) _ hκ31 _ _ _ _ _ _ _
set_option maxHeartbeats 4000000 in
set_option maxRecDepth 100000 in
theorem b_L_law_31 {Γ : Cx} {l : Launch} {ω : Wd} {N : Nat} {xs : Nat → Int32} {b : Nat} (hX : XOk Γ b N xs) (h : CxOk Γ l room_1 11 ω LC cL_law RL wsL_law) (hR : RetI Γ ω LC cL_law .boolean) : ∀ (n : Nat) (ct : Nat) (hcx : CtOk Γ (ct + 4 * n)) (b2 : Int32) (b3 : Int32) (M : Mm), Gq ct Γ ω LC eI 31 [(0, .ref b), (1, .ref (th ω 0 0)), (2, .int b2), (3, .int b3)] [] M (m_L_law_31 N xs n b2 b3 M) := by
  intro n
  induction n with
  | zero =>
    intro ct hcx b2 b3 M
    rw [m_L_law_31.eq_1]
    exact g_none
  | succ n ih =>
    intro ct hcx b2 b3 M
    rw [m_L_law_31.eq_2]
    refine g_iload_n h 3 dL_law_31 rfl rfl ?_
    refine g_bipush h 48 dL_law_32 (by decide) ?_
    refine g_icmp_ge h 409 dL_law_34 (by decide) (fun hc1 => ?_) (fun hc1 => ?_)
    · skip
      refine g_sub (lv' := [(2, .int b2)]) [2] rfl ?_
      exact b_L_law_409 hX h hR (CtOk.mono hcx (by omega)) _ _
    · skip
      refine g_iload_n h 2 dL_law_37 rfl rfl ?_
      refine g_if_eq h 409 dL_law_38 (by decide) (fun hc2 => ?_) (fun hc2 => ?_)
      · skip
        refine g_sub (lv' := [(2, .int b2)]) [2] rfl ?_
        exact b_L_law_409 hX h hR (CtOk.mono hcx (by omega)) _ _
      · skip
        refine g_aload_n h 0 dL_law_41 rfl rfl ?_
        refine g_iconst h 2 dL_law_42 (by decide) ?_
        refine g_iload_n h 3 dL_law_43 rfl rfl ?_
        refine g_imul h dL_law_44 ?_
        refine g_cell h hX (i := (2 * b3)) gL_law_L_cell (by decide) (Nat.le_of_ble_eq_true rfl) dL_law_45 ?_
        refine g_ni (fun r3 => ?_)
        refine g_istore h (lv' := [(4, .int r3), (0, .ref b), (1, .ref (th ω 0 0)), (2, .int b2), (3, .int b3)]) dL_law_48 (by decide) [0, 1, 2, 3, 4] rfl ?_
        refine g_aload_n h 1 dL_law_50 rfl rfl ?_
        refine g_iconst h 2 dL_law_51 (by decide) ?_
        refine g_iload_n h 4 dL_law_52 rfl rfl ?_
        refine g_imul h dL_law_53 ?_
        refine g_iconst h 1 dL_law_54 (by decide) ?_
        refine g_iadd h dL_law_55 ?_
        refine g_cell h hX (i := ((2 * b3) + 1)) gL_law_L_cell (by decide) (Nat.le_of_ble_eq_true rfl) dL_law_56 ?_
        refine g_ni (fun r4 => ?_)
        refine g_istore h (lv' := [(5, .int r4), (4, .int r3), (0, .ref b), (1, .ref (th ω 0 0)), (2, .int b2), (3, .int b3)]) dL_law_59 (by decide) [0, 1, 2, 3, 4, 5] rfl ?_
        refine g_aload_n h 3 dL_law_61 rfl rfl ?_
        refine g_bipush h 10 dL_law_62 (by decide) ?_
        refine g_callI h (As := [.int 10]) (fun t => t) (fun r t hG => c_X5_count l ω _ 10 hG) iC_0_0 (C := RX5) (T := TX5) (N := 8) rfl 1 rfl gL_law_X5_count rfl rfl rfl (by decide +kernel) (by decide) (st0 := _) rfl (Nat.le_of_ble_eq_true rfl) dL_law_64 (fun r5 M6 => ?_)
        refine g_istore h (lv' := [(6, .int r5), (5, .int r4), (4, .int r3), (0, .ref b), (1, .ref (th ω 0 0)), (2, .int b2), (3, .int b3)]) dL_law_67 (by decide) [0, 1, 2, 3, 4, 5, 6] rfl ?_
        refine g_aload_n h 4 dL_law_69 rfl rfl ?_
        refine g_callJ h (As := [.ref (th ω 0 0)]) (fun r t hG => c_L_print l ω _ hG) 1 rfl gL_law_L_print rfl rfl rfl (by decide +kernel) (by decide) (st0 := _) rfl (Nat.le_of_ble_eq_true rfl) dL_law_70 (fun r7 M8 => ?_)
        refine g_lstore h (lv' := [(7, .long r7), (6, .int r5), (5, .int r4), (4, .int r3), (0, .ref b), (1, .ref (th ω 0 0)), (2, .int b2), (3, .int b3)]) dL_law_73 (by decide) [0, 1, 2, 3, 4, 5, 6, 7] rfl ?_
        refine g_iload_n h 7 dL_law_75 rfl rfl ?_
        refine g_bipush h 7 dL_law_76 (by decide) ?_
        refine g_icmp_le h 108 dL_law_78 (by decide) (fun hc9 => ?_) (fun hc9 => ?_)
        · skip
          refine g_sub (lv' := [(0, .ref b), (1, .ref (th ω 0 0)), (3, .int b3), (4, .int r3), (5, .int r4), (6, .int r5), (7, .long r7)]) [4, 5, 7, 3, 2, 1, 0] rfl ?_
          exact b_L_law_108 (m := 4 * n) hX h hR (CtOk.mono hcx (by omega)) _ ih _ _ _ _ _ _
        · skip
          refine g_iload h 3 dL_law_81 rfl ?_
          refine g_bipush h 17 dL_law_83 (by decide) ?_
          refine g_callP h (As := [.int r3, .int 17]) (fun r t hG => c_L_low l ω M00 r3 17 hG) 2 rfl gL_law_L_low rfl rfl rfl (by decide +kernel) (by decide) (st0 := _) rfl (Nat.le_of_ble_eq_true rfl) dL_law_85 (fun r10 => ?_)
          refine g_iconst h 3 dL_law_88 (by decide) ?_
          refine g_icmp_eq h 104 dL_law_89 (by decide) (fun hc11 => ?_) (fun hc11 => ?_)
          · skip
            refine g_sub (lv' := [(0, .ref b), (1, .ref (th ω 0 0)), (3, .int b3), (4, .int r3), (5, .int r4), (6, .int r5), (7, .long r7)]) [4, 5, 7, 3, 2, 1, 0] rfl ?_
            exact b_L_law_104 (m := 4 * n) hX h hR (CtOk.mono hcx (by omega)) _ ih _ _ _ _ _ _
          · skip
            refine g_iload h 3 dL_law_92 rfl ?_
            refine g_bipush h 17 dL_law_94 (by decide) ?_
            refine g_callP h (As := [.int r3, .int 17]) (fun r t hG => c_L_low l ω M00 r3 17 hG) 2 rfl gL_law_L_low rfl rfl rfl (by decide +kernel) (by decide) (st0 := _) rfl (Nat.le_of_ble_eq_true rfl) dL_law_96 (fun r12 => ?_)
            refine g_bipush h 8 dL_law_99 (by decide) ?_
            refine g_icmp_ne h 108 dL_law_101 (by decide) (fun hc13 => ?_) (fun hc13 => ?_)
            · skip
              refine g_sub (lv' := [(0, .ref b), (1, .ref (th ω 0 0)), (3, .int b3), (4, .int r3), (5, .int r4), (6, .int r5), (7, .long r7)]) [4, 5, 7, 3, 2, 1, 0] rfl ?_
              exact b_L_law_104 (m := 4 * n) hX h hR (CtOk.mono hcx (by omega)) _ ih _ _ _ _ _ _
            · skip
              refine g_sub (lv' := [(0, .ref b), (1, .ref (th ω 0 0)), (3, .int b3), (4, .int r3), (5, .int r4), (6, .int r5), (7, .long r7)]) [4, 5, 7, 3, 2, 1, 0] rfl ?_
              exact b_L_law_108 (m := 4 * n) hX h hR (CtOk.mono hcx (by omega)) _ ih _ _ _ _ _ _
set_option maxHeartbeats 4000000 in
set_option maxRecDepth 100000 in
theorem b_L_law_28 {Γ : Cx} {l : Launch} {ω : Wd} {N : Nat} {xs : Nat → Int32} {b : Nat} {ct : Nat} (hX : XOk Γ b N xs) (h : CxOk Γ l room_1 11 ω LC cL_law RL wsL_law) (hR : RetI Γ ω LC cL_law .boolean) (hcx : CtOk Γ (ct + 4000)) : ∀ (s0 : Int32) (M : Mm), Gq ct Γ ω LC eI 28 [(0, .ref b), (1, .ref (th ω 0 0))] [.int s0] M (m_L_law_28 N xs s0 M) := by
  intro s0 M
  unfold m_L_law_28
  refine g_istore_n h rfl (lv' := [(2, .int s0), (0, .ref b), (1, .ref (th ω 0 0))]) dL_law_28 (by decide) [0, 1, 2] rfl ?_
  refine g_iconst h 0 dL_law_29 (by decide) ?_
  refine g_istore_n h rfl (lv' := [(3, .int 0), (2, .int s0), (0, .ref b), (1, .ref (th ω 0 0))]) dL_law_30 (by decide) [0, 1, 2, 3] rfl ?_
  refine g_sub (lv' := [(0, .ref b), (1, .ref (th ω 0 0)), (2, .int s0), (3, .int 0)]) [2, 3, 1, 0] rfl ?_
  exact b_L_law_31 hX h hR fu _ (CtOk.mono hcx (by unfold fu; omega)) _ _ _
set_option maxHeartbeats 4000000 in
set_option maxRecDepth 100000 in
theorem b_L_law_27 {Γ : Cx} {l : Launch} {ω : Wd} {N : Nat} {xs : Nat → Int32} {b : Nat} {ct : Nat} (hX : XOk Γ b N xs) (h : CxOk Γ l room_1 11 ω LC cL_law RL wsL_law) (hR : RetI Γ ω LC cL_law .boolean) (hcx : CtOk Γ (ct + 4000)) : ∀ (M : Mm), Gq ct Γ ω LC eI 27 [(0, .ref b), (1, .ref (th ω 0 0))] [] M (m_L_law_27 N xs M) := by
  intro M
  unfold m_L_law_27
  refine g_iconst h 0 dL_law_27 (by decide) ?_
  exact b_L_law_28 hX h hR (CtOk.mono hcx (by omega)) _ _
set_option maxHeartbeats 4000000 in
set_option maxRecDepth 100000 in
theorem b_L_law_8 {Γ : Cx} {l : Launch} {ω : Wd} {N : Nat} {xs : Nat → Int32} {b : Nat} {ct : Nat} (hX : XOk Γ b N xs) (h : CxOk Γ l room_1 11 ω LC cL_law RL wsL_law) (hR : RetI Γ ω LC cL_law .boolean) (hcx : CtOk Γ (ct + 4002)) : ∀ (M : Mm), Gq ct Γ ω LC eI 8 [(0, .ref b), (1, .ref (th ω 0 0))] [] M (m_L_law_8 N xs M) := by
  intro M
  unfold m_L_law_8
  refine g_aload_n h 1 dL_law_8 rfl rfl ?_
  refine g_callS h 1 (As := [.ref (th ω 0 0)]) (fun t => t) (CtOk.mono hcx (by omega)) (fun r t hG => c_L_hangs l ω _ hG) 1 rfl gL_law_L_hangs rfl rfl rfl (by decide +kernel) (by decide) (st0 := _) rfl (Nat.le_of_ble_eq_true rfl) dL_law_9 (fun r1 M2 => ?_)
  refine g_if_eq h 27 dL_law_12 (by decide) (fun hc3 => ?_) (fun hc3 => ?_)
  · skip
    exact b_L_law_27 hX h hR (CtOk.mono hcx (by omega)) _
  · skip
    refine g_aload_n h 1 dL_law_15 rfl rfl ?_
    refine g_iconst h 5 dL_law_16 (by decide) ?_
    refine g_callS h 1 (As := [.ref (th ω 0 0), .int 5]) (fun t => t) (CtOk.mono hcx (by omega)) (fun r t hG => c_L_rounds l ω _ 5 hG) 2 rfl gL_law_L_rounds rfl rfl rfl (by decide +kernel) (by decide) (st0 := _) rfl (Nat.le_of_ble_eq_true rfl) dL_law_17 (fun r4 M5 => ?_)
    refine g_if_eq h 27 dL_law_20 (by decide) (fun hc6 => ?_) (fun hc6 => ?_)
    · skip
      exact b_L_law_27 hX h hR (CtOk.mono hcx (by omega)) _
    · skip
      refine g_iconst h 1 dL_law_23 (by decide) ?_
      refine g_goto h (tgt := 28) dL_law_24 (by decide) ?_
      exact b_L_law_28 hX h hR (CtOk.mono hcx (by omega)) _ _
