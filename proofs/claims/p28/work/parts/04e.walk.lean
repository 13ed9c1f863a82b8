/-! WALKS (written by wip/whole/gen.py): L_print, L_fights, L_hangs, L_rounds -/
set_option maxHeartbeats 4000000 in
set_option maxRecDepth 100000 in
theorem b_L_print_73 {Γ : Cx} {l : Launch} {ω : Wd} {ct : Nat}  (h : CxOk Γ l ⟨3, 0, 0, 68⟩ 4 ω LC cL_print yL_print.cls wsL_print) (hR : RetJ Γ ω LC cL_print) (hcx : CtOk Γ (ct + 0)) : ∀ (n : Nat) (j1 : Int64) (b3 : Int32) (M : Mm), Gq ct Γ ω LC eI 73 [(0, .ref (th ω 0 0)), (1, .long j1), (3, .int b3)] [] M (m_L_print_73 n j1 b3 M) := by
  intro n
  induction n with
  | zero =>
    intro j1 b3 M
    rw [m_L_print_73.eq_1]
    exact g_none
  | succ n ih =>
    intro j1 b3 M
    rw [m_L_print_73.eq_2]
    refine g_iload_n h 2 dL_print_73 rfl rfl ?_
    refine g_bipush h 12 dL_print_74 (by decide) ?_
    refine g_icmp_ge h 103 dL_print_76 (by decide) (fun hc1 => ?_) (fun hc1 => ?_)
    · skip
      refine g_lload_n h 1 dL_print_103 rfl rfl ?_
      exact g_lret hR LC_n9 dL_print_104
    · skip
      refine g_ldc2 h 31 dL_print_79 (by decide +kernel) ?_
      refine g_lload_n h 1 dL_print_82 rfl rfl ?_
      refine g_lmul h dL_print_83 ?_
      refine g_aload_n h 0 dL_print_84 rfl rfl ?_
      refine g_iload_n h 2 dL_print_85 rfl rfl ?_
      refine g_iconst h 2 dL_print_86 (by decide) ?_
      refine g_idiv h dL_print_87 ?_
      refine g_iload_n h 2 dL_print_88 rfl rfl ?_
      refine g_iconst h 2 dL_print_89 (by decide) ?_
      refine g_irem h dL_print_90 ?_
      refine g_callI h (As := [.int (b3 / 2), .int (b3 - b3 / 2 * 2)]) (fun t => t) (fun r t hG => c_X5_player l ω _ (b3 / 2) (b3 - b3 / 2 * 2) hG) iC_0_0 (C := RX5) (T := TX5) (N := 8) rfl 2 rfl gL_print_X5_player rfl rfl rfl (by decide +kernel) (by decide) (st0 := _) rfl (Nat.le_of_ble_eq_true rfl) dL_print_91 (fun r2 M3 => ?_)
      refine g_i2l h dL_print_94 ?_
      refine g_ladd h dL_print_95 ?_
      refine g_lstore_n h rfl (lv' := [(1, .long ((31 * j1) + (r2.toInt64))), (0, .ref (th ω 0 0)), (3, .int b3)]) dL_print_96 (by decide) [0, 1, 2] rfl ?_
      refine g_iinc h (b3 + 1) (lv' := [(3, .int (b3 + 1)), (1, .long ((31 * j1) + (r2.toInt64))), (0, .ref (th ω 0 0))]) dL_print_97 2 rfl (congrArg (fun z => b3 + z) (by decide)) (by decide) [0, 1, 2] rfl ?_
      refine g_goto h (tgt := 73) dL_print_100 (by decide) ?_
      refine g_sub (lv' := [(0, .ref (th ω 0 0)), (1, .long ((31 * j1) + (r2.toInt64))), (3, .int (b3 + 1))]) [2, 1, 0] rfl ?_
      exact ih _ _ _
set_option maxHeartbeats 4000000 in
set_option maxRecDepth 100000 in
theorem b_L_print_33 {Γ : Cx} {l : Launch} {ω : Wd} {ct : Nat}  (h : CxOk Γ l ⟨3, 0, 0, 68⟩ 4 ω LC cL_print yL_print.cls wsL_print) (hR : RetJ Γ ω LC cL_print) (hcx : CtOk Γ (ct + 0)) : ∀ (n : Nat) (j1 : Int64) (b3 : Int32) (M : Mm), Gq ct Γ ω LC eI 33 [(0, .ref (th ω 0 0)), (1, .long j1), (3, .int b3)] [] M (m_L_print_33 n j1 b3 M) := by
  intro n
  induction n with
  | zero =>
    intro j1 b3 M
    rw [m_L_print_33.eq_1]
    exact g_none
  | succ n ih =>
    intro j1 b3 M
    rw [m_L_print_33.eq_2]
    refine g_iload_n h 2 dL_print_33 rfl rfl ?_
    refine g_bipush h 9 dL_print_34 (by decide) ?_
    refine g_aload_n h 0 dL_print_36 rfl rfl ?_
    refine g_iconst h 0 dL_print_37 (by decide) ?_
    refine g_callI h (As := [.int 0]) (fun t => t) (fun r t hG => c_X5_count l ω _ 0 hG) iC_0_0 (C := RX5) (T := TX5) (N := 8) rfl 1 rfl gL_print_X5_count rfl rfl rfl (by decide +kernel) (by decide) (st0 := _) rfl (Nat.le_of_ble_eq_true rfl) dL_print_38 (fun r1 M2 => ?_)
    refine g_imul h dL_print_41 ?_
    refine g_icmp_ge h 71 dL_print_42 (by decide) (fun hc3 => ?_) (fun hc3 => ?_)
    · skip
      refine g_iconst h 0 dL_print_71 (by decide) ?_
      refine g_istore_n h rfl (lv' := [(3, .int 0), (0, .ref (th ω 0 0)), (1, .long j1)]) dL_print_72 (by decide) [0, 1, 2] rfl ?_
      refine g_sub (lv' := [(0, .ref (th ω 0 0)), (1, .long j1), (3, .int 0)]) [1, 2, 0] rfl ?_
      exact b_L_print_73 h hR (CtOk.mono hcx (by omega)) fu _ _ _
    · skip
      refine g_ldc2 h 31 dL_print_45 (by decide +kernel) ?_
      refine g_lload_n h 1 dL_print_48 rfl rfl ?_
      refine g_lmul h dL_print_49 ?_
      refine g_aload_n h 0 dL_print_50 rfl rfl ?_
      refine g_iload_n h 2 dL_print_51 rfl rfl ?_
      refine g_bipush h 9 dL_print_52 (by decide) ?_
      refine g_idiv h dL_print_54 ?_
      refine g_iload_n h 2 dL_print_55 rfl rfl ?_
      refine g_bipush h 9 dL_print_56 (by decide) ?_
      refine g_irem h dL_print_58 ?_
      refine g_callI h (As := [.int (b3 / 9), .int (b3 - b3 / 9 * 9)]) (fun t => t) (fun r t hG => c_X5_conker l ω _ (b3 / 9) (b3 - b3 / 9 * 9) hG) iC_0_0 (C := RX5) (T := TX5) (N := 8) rfl 2 rfl gL_print_X5_conker rfl rfl rfl (by decide +kernel) (by decide) (st0 := _) rfl (Nat.le_of_ble_eq_true rfl) dL_print_59 (fun r4 M5 => ?_)
      refine g_i2l h dL_print_62 ?_
      refine g_ladd h dL_print_63 ?_
      refine g_lstore_n h rfl (lv' := [(1, .long ((31 * j1) + (r4.toInt64))), (0, .ref (th ω 0 0)), (3, .int b3)]) dL_print_64 (by decide) [0, 1, 2] rfl ?_
      refine g_iinc h (b3 + 1) (lv' := [(3, .int (b3 + 1)), (1, .long ((31 * j1) + (r4.toInt64))), (0, .ref (th ω 0 0))]) dL_print_65 2 rfl (congrArg (fun z => b3 + z) (by decide)) (by decide) [0, 1, 2] rfl ?_
      refine g_goto h (tgt := 33) dL_print_68 (by decide) ?_
      refine g_sub (lv' := [(0, .ref (th ω 0 0)), (1, .long ((31 * j1) + (r4.toInt64))), (3, .int (b3 + 1))]) [2, 1, 0] rfl ?_
      exact ih _ _ _
set_option maxHeartbeats 4000000 in
set_option maxRecDepth 100000 in
theorem b_L_print_6 {Γ : Cx} {l : Launch} {ω : Wd} {ct : Nat}  (h : CxOk Γ l ⟨3, 0, 0, 68⟩ 4 ω LC cL_print yL_print.cls wsL_print) (hR : RetJ Γ ω LC cL_print) (hcx : CtOk Γ (ct + 0)) : ∀ (n : Nat) (j1 : Int64) (b3 : Int32) (M : Mm), Gq ct Γ ω LC eI 6 [(0, .ref (th ω 0 0)), (1, .long j1), (3, .int b3)] [] M (m_L_print_6 n j1 b3 M) := by
  intro n
  induction n with
  | zero =>
    intro j1 b3 M
    rw [m_L_print_6.eq_1]
    exact g_none
  | succ n ih =>
    intro j1 b3 M
    rw [m_L_print_6.eq_2]
    refine g_iload_n h 2 dL_print_6 rfl rfl ?_
    refine g_bipush h 10 dL_print_7 (by decide) ?_
    refine g_icmp_ge h 31 dL_print_9 (by decide) (fun hc1 => ?_) (fun hc1 => ?_)
    · skip
      refine g_iconst h 0 dL_print_31 (by decide) ?_
      refine g_istore_n h rfl (lv' := [(3, .int 0), (0, .ref (th ω 0 0)), (1, .long j1)]) dL_print_32 (by decide) [0, 1, 2] rfl ?_
      refine g_sub (lv' := [(0, .ref (th ω 0 0)), (1, .long j1), (3, .int 0)]) [1, 2, 0] rfl ?_
      exact b_L_print_33 h hR (CtOk.mono hcx (by omega)) fu _ _ _
    · skip
      refine g_ldc2 h 31 dL_print_12 (by decide +kernel) ?_
      refine g_lload_n h 1 dL_print_15 rfl rfl ?_
      refine g_lmul h dL_print_16 ?_
      refine g_aload_n h 0 dL_print_17 rfl rfl ?_
      refine g_iload_n h 2 dL_print_18 rfl rfl ?_
      refine g_callI h (As := [.int b3]) (fun t => t) (fun r t hG => c_X5_count l ω _ b3 hG) iC_0_0 (C := RX5) (T := TX5) (N := 8) rfl 1 rfl gL_print_X5_count rfl rfl rfl (by decide +kernel) (by decide) (st0 := _) rfl (Nat.le_of_ble_eq_true rfl) dL_print_19 (fun r2 M3 => ?_)
      refine g_i2l h dL_print_22 ?_
      refine g_ladd h dL_print_23 ?_
      refine g_lstore_n h rfl (lv' := [(1, .long ((31 * j1) + (r2.toInt64))), (0, .ref (th ω 0 0)), (3, .int b3)]) dL_print_24 (by decide) [0, 1, 2] rfl ?_
      refine g_iinc h (b3 + 1) (lv' := [(3, .int (b3 + 1)), (1, .long ((31 * j1) + (r2.toInt64))), (0, .ref (th ω 0 0))]) dL_print_25 2 rfl (congrArg (fun z => b3 + z) (by decide)) (by decide) [0, 1, 2] rfl ?_
      refine g_goto h (tgt := 6) dL_print_28 (by decide) ?_
      refine g_sub (lv' := [(0, .ref (th ω 0 0)), (1, .long ((31 * j1) + (r2.toInt64))), (3, .int (b3 + 1))]) [2, 1, 0] rfl ?_
      exact ih _ _ _
set_option maxHeartbeats 4000000 in
set_option maxRecDepth 100000 in
theorem c_L_print (l : Launch) (ω : Wd)  (M : Mm) {r : Int32} {M' : Mm} (hm : m_L_print M = some (r, M')) : MJ l yL_print wsL_print ⟨3, 0, 0, 68⟩ ω LC [.ref (th ω 0 0)] M M' := by
  refine met_j (cc := cL_print) (maxL := 4) (r := r) (by decide +kernel) rfl (Nat.le_of_ble_eq_true rfl) LC_nd ?_
  intro Γ h hR ht
  suffices K : Gq 0 Γ ω LC eI 0 [(0, .ref (th ω 0 0))] [] M (m_L_print M) from K (r, M') hm ht (c0 Γ)
  have hcx : CtOk Γ (0 + 0) := ctRm h (by decide) (by decide)
  unfold m_L_print
  refine g_ldc2 h 23 dL_print_0 (by decide +kernel) ?_
  refine g_lstore_n h rfl (lv' := [(1, .long 23), (0, .ref (th ω 0 0))]) dL_print_3 (by decide) [0, 1] rfl ?_
  refine g_iconst h 0 dL_print_4 (by decide) ?_
  refine g_istore_n h rfl (lv' := [(3, .int 0), (1, .long 23), (0, .ref (th ω 0 0))]) dL_print_5 (by decide) [0, 1, 2] rfl ?_
  refine g_sub (lv' := [(0, .ref (th ω 0 0)), (1, .long 23), (3, .int 0)]) [2, 1, 0] rfl ?_
  exact b_L_print_6 h hR (CtOk.mono hcx (by omega)) fu _ _ _
set_option maxHeartbeats 4000000 in
set_option maxRecDepth 100000 in
theorem b_L_fights_220 {Γ : Cx} {l : Launch} {ω : Wd} {ct : Nat}  (h : CxOk Γ l ⟨6, 1, 3, 146⟩ 11 ω LC cL_fights yL_fights.cls wsL_fights) (hR : RetI Γ ω LC cL_fights .boolean) (hcx : CtOk Γ (ct + 0)) : ∀ (j5 : Int64) (s0 : Int32) (M : Mm), Gq ct Γ ω LC eI 220 [(0, .ref (th ω 0 0)), (5, .long j5)] [.int s0] M (m_L_fights_220 j5 s0 M) := by
  intro j5 s0 M
  unfold m_L_fights_220
  refine g_istore h (lv' := [(10, .int s0), (0, .ref (th ω 0 0)), (5, .long j5)]) dL_fights_220 (by decide) [0, 1, 2] rfl ?_
  refine g_iload h 0 dL_fights_222 rfl ?_
  refine g_if_eq h 248 dL_fights_224 (by decide) (fun hc1 => ?_) (fun hc1 => ?_)
  · skip
    refine g_iconst h 0 dL_fights_248 (by decide) ?_
    exact g_iret hR (by decide) dL_fights_249
  · skip
    refine g_aload_n h 1 dL_fights_227 rfl rfl ?_
    refine g_callI h (As := []) (fun t => t) (fun r t hG => c_X5_undo l ω _ hG) iC_0_0 (C := RX5) (T := TX5) (N := 8) rfl 0 rfl gL_fights_X5_undo rfl rfl rfl (by decide +kernel) (by decide) (st0 := _) rfl (Nat.le_of_ble_eq_true rfl) dL_fights_228 (fun r2 M3 => ?_)
    refine g_if_lt h 248 dL_fights_231 (by decide) (fun hc4 => ?_) (fun hc4 => ?_)
    · skip
      refine g_iconst h 0 dL_fights_248 (by decide) ?_
      exact g_iret hR (by decide) dL_fights_249
    · skip
      refine g_aload_n h 1 dL_fights_234 rfl rfl ?_
      refine g_callJ h (As := [.ref (th ω 0 0)]) (fun r t hG => c_L_print l ω _ hG) 1 rfl gL_fights_L_print rfl rfl rfl (by decide +kernel) (by decide) (st0 := _) rfl (Nat.le_of_ble_eq_true rfl) dL_fights_235 (fun r5 M6 => ?_)
      refine g_lload h 2 dL_fights_238 rfl ?_
      refine g_lcmp h dL_fights_240 ?_
      refine g_if_ne h 248 dL_fights_241 (by decide) (fun hc7 => ?_) (fun hc7 => ?_)
      · skip
        refine g_iconst h 1 dL_fights_244 (by decide) ?_
        refine g_goto h (tgt := 249) dL_fights_245 (by decide) ?_
        exact g_iret hR (by decide) dL_fights_249
      · skip
        refine g_iconst h 0 dL_fights_248 (by decide) ?_
        exact g_iret hR (by decide) dL_fights_249
set_option maxHeartbeats 4000000 in
set_option maxRecDepth 100000 in
theorem b_L_fights_219 {Γ : Cx} {l : Launch} {ω : Wd} {ct : Nat}  (h : CxOk Γ l ⟨6, 1, 3, 146⟩ 11 ω LC cL_fights yL_fights.cls wsL_fights) (hR : RetI Γ ω LC cL_fights .boolean) (hcx : CtOk Γ (ct + 0)) : ∀ (j5 : Int64) (M : Mm), Gq ct Γ ω LC eI 219 [(0, .ref (th ω 0 0)), (5, .long j5)] [] M (m_L_fights_219 j5 M) := by
  intro j5 M
  unfold m_L_fights_219
  refine g_iconst h 0 dL_fights_219 (by decide) ?_
  exact b_L_fights_220 h hR (CtOk.mono hcx (by omega)) _ _ _
set_option maxHeartbeats 4000000 in
set_option maxRecDepth 100000 in
theorem b_L_fights_208 {Γ : Cx} {l : Launch} {ω : Wd} {ct : Nat}  (h : CxOk Γ l ⟨6, 1, 3, 146⟩ 11 ω LC cL_fights yL_fights.cls wsL_fights) (hR : RetI Γ ω LC cL_fights .boolean) (hcx : CtOk Γ (ct + 1)) : ∀ (j5 : Int64) (M : Mm), Gq ct Γ ω LC eI 208 [(0, .ref (th ω 0 0)), (5, .long j5)] [] M (m_L_fights_208 j5 M) := by
  intro j5 M
  unfold m_L_fights_208
  refine g_aload_n h 0 dL_fights_208 rfl rfl ?_
  refine g_callS h 1 (As := [.ref (th ω 0 0)]) (fun t => t) (CtOk.mono hcx (by omega)) (fun r t hG => c_L_conkers l ω _ hG) 1 rfl gL_fights_L_conkers rfl rfl rfl (by decide +kernel) (by decide) (st0 := _) rfl (Nat.le_of_ble_eq_true rfl) dL_fights_209 (fun r1 M2 => ?_)
  refine g_if_eq h 219 dL_fights_212 (by decide) (fun hc3 => ?_) (fun hc3 => ?_)
  · skip
    exact b_L_fights_219 h hR (CtOk.mono hcx (by omega)) _ _
  · skip
    refine g_iconst h 1 dL_fights_215 (by decide) ?_
    refine g_goto h (tgt := 220) dL_fights_216 (by decide) ?_
    exact b_L_fights_220 h hR (CtOk.mono hcx (by omega)) _ _ _
set_option maxHeartbeats 4000000 in
set_option maxRecDepth 100000 in
theorem b_L_fights_171 {Γ : Cx} {l : Launch} {ω : Wd} {ct : Nat}  (h : CxOk Γ l ⟨6, 1, 3, 146⟩ 11 ω LC cL_fights yL_fights.cls wsL_fights) (hR : RetI Γ ω LC cL_fights .boolean) (hcx : CtOk Γ (ct + 1)) : ∀ (b4 : Int32) (j5 : Int64) (b9 : Int32) (M : Mm), Gq ct Γ ω LC eI 171 [(0, .ref (th ω 0 0)), (4, .int b4), (5, .long j5), (9, .int b9)] [] M (m_L_fights_171 b4 j5 b9 M) := by
  intro b4 j5 b9 M
  unfold m_L_fights_171
  refine g_aload_n h 0 dL_fights_171 rfl rfl ?_
  refine g_iload h 3 dL_fights_172 rfl ?_
  refine g_bipush h 6 dL_fights_174 (by decide) ?_
  refine g_callI h (As := [.int b9, .int 6]) (fun t => t) (fun r t hG => c_X5_conker l ω _ b9 6 hG) iC_0_0 (C := RX5) (T := TX5) (N := 8) rfl 2 rfl gL_fights_X5_conker rfl rfl rfl (by decide +kernel) (by decide) (st0 := _) rfl (Nat.le_of_ble_eq_true rfl) dL_fights_176 (fun r1 M2 => ?_)
  refine g_iconst h 2 dL_fights_179 (by decide) ?_
  refine g_icmp_ne h 219 dL_fights_180 (by decide) (fun hc3 => ?_) (fun hc3 => ?_)
  · skip
    refine g_aload_n h 0 dL_fights_183 rfl rfl ?_
    refine g_iload h 3 dL_fights_184 rfl ?_
    refine g_bipush h 7 dL_fights_186 (by decide) ?_
    refine g_callI h (As := [.int b9, .int 7]) (fun t => t) (fun r t hG => c_X5_conker l ω _ b9 7 hG) iC_0_0 (C := RX5) (T := TX5) (N := 8) rfl 2 rfl gL_fights_X5_conker rfl rfl rfl (by decide +kernel) (by decide) (st0 := _) rfl (Nat.le_of_ble_eq_true rfl) dL_fights_188 (fun r4 M5 => ?_)
    refine g_iload h 1 dL_fights_191 rfl ?_
    refine g_icmp_ne h 219 dL_fights_193 (by decide) (fun hc6 => ?_) (fun hc6 => ?_)
    · skip
      refine g_aload_n h 0 dL_fights_196 rfl rfl ?_
      refine g_iload h 1 dL_fights_197 rfl ?_
      refine g_bipush h 6 dL_fights_199 (by decide) ?_
      refine g_callI h (As := [.int b4, .int 6]) (fun t => t) (fun r t hG => c_X5_conker l ω _ b4 6 hG) iC_0_0 (C := RX5) (T := TX5) (N := 8) rfl 2 rfl gL_fights_X5_conker rfl rfl rfl (by decide +kernel) (by decide) (st0 := _) rfl (Nat.le_of_ble_eq_true rfl) dL_fights_201 (fun r7 M8 => ?_)
      refine g_iconst h 2 dL_fights_204 (by decide) ?_
      refine g_icmp_ge h 219 dL_fights_205 (by decide) (fun hc9 => ?_) (fun hc9 => ?_)
      · skip
        refine g_sub (lv' := [(0, .ref (th ω 0 0)), (5, .long j5)]) [0, 2] rfl ?_
        exact b_L_fights_219 h hR (CtOk.mono hcx (by omega)) _ _
      · skip
        refine g_sub (lv' := [(0, .ref (th ω 0 0)), (5, .long j5)]) [0, 2] rfl ?_
        exact b_L_fights_208 h hR (CtOk.mono hcx (by omega)) _ _
    · skip
      refine g_sub (lv' := [(0, .ref (th ω 0 0)), (5, .long j5)]) [0, 2] rfl ?_
      exact b_L_fights_219 h hR (CtOk.mono hcx (by omega)) _ _
  · skip
    refine g_sub (lv' := [(0, .ref (th ω 0 0)), (5, .long j5)]) [0, 2] rfl ?_
    exact b_L_fights_219 h hR (CtOk.mono hcx (by omega)) _ _
set_option maxHeartbeats 4000000 in
set_option maxRecDepth 100000 in
theorem b_L_fights_125 {Γ : Cx} {l : Launch} {ω : Wd} {ct : Nat}  (h : CxOk Γ l ⟨6, 1, 3, 146⟩ 11 ω LC cL_fights yL_fights.cls wsL_fights) (hR : RetI Γ ω LC cL_fights .boolean) (hcx : CtOk Γ (ct + 1)) : ∀ (b1 : Int32) (b2 : Int32) (b4 : Int32) (j5 : Int64) (b9 : Int32) (M : Mm), Gq ct Γ ω LC eI 125 [(0, .ref (th ω 0 0)), (1, .int b1), (2, .int b2), (4, .int b4), (5, .long j5), (9, .int b9)] [] M (m_L_fights_125 b1 b2 b4 j5 b9 M) := by
  intro b1 b2 b4 j5 b9 M
  unfold m_L_fights_125
  refine g_iload h 3 dL_fights_125 rfl ?_
  refine g_bipush h (-5) dL_fights_127 (by decide) ?_
  refine g_icmp_ne h 159 dL_fights_129 (by decide) (fun hc1 => ?_) (fun hc1 => ?_)
  · skip
    refine g_aload_n h 0 dL_fights_132 rfl rfl ?_
    refine g_iload_n h 1 dL_fights_133 rfl rfl ?_
    refine g_bipush h 7 dL_fights_134 (by decide) ?_
    refine g_callI h (As := [.int b1, .int 7]) (fun t => t) (fun r t hG => c_X5_conker l ω _ b1 7 hG) iC_0_0 (C := RX5) (T := TX5) (N := 8) rfl 2 rfl gL_fights_X5_conker rfl rfl rfl (by decide +kernel) (by decide) (st0 := _) rfl (Nat.le_of_ble_eq_true rfl) dL_fights_136 (fun r2 M3 => ?_)
    refine g_iload h 3 dL_fights_139 rfl ?_
    refine g_icmp_ne h 219 dL_fights_141 (by decide) (fun hc4 => ?_) (fun hc4 => ?_)
    · skip
      refine g_aload_n h 0 dL_fights_144 rfl rfl ?_
      refine g_iload_n h 2 dL_fights_145 rfl rfl ?_
      refine g_bipush h 7 dL_fights_146 (by decide) ?_
      refine g_callI h (As := [.int b2, .int 7]) (fun t => t) (fun r t hG => c_X5_conker l ω _ b2 7 hG) iC_0_0 (C := RX5) (T := TX5) (N := 8) rfl 2 rfl gL_fights_X5_conker rfl rfl rfl (by decide +kernel) (by decide) (st0 := _) rfl (Nat.le_of_ble_eq_true rfl) dL_fights_148 (fun r5 M6 => ?_)
      refine g_iload h 3 dL_fights_151 rfl ?_
      refine g_icmp_ne h 219 dL_fights_153 (by decide) (fun hc7 => ?_) (fun hc7 => ?_)
      · skip
        refine g_goto h (tgt := 208) dL_fights_156 (by decide) ?_
        refine g_sub (lv' := [(0, .ref (th ω 0 0)), (5, .long j5)]) [0, 4] rfl ?_
        exact b_L_fights_208 h hR (CtOk.mono hcx (by omega)) _ _
      · skip
        refine g_sub (lv' := [(0, .ref (th ω 0 0)), (5, .long j5)]) [0, 4] rfl ?_
        exact b_L_fights_219 h hR (CtOk.mono hcx (by omega)) _ _
    · skip
      refine g_sub (lv' := [(0, .ref (th ω 0 0)), (5, .long j5)]) [0, 4] rfl ?_
      exact b_L_fights_219 h hR (CtOk.mono hcx (by omega)) _ _
  · skip
    refine g_iload h 3 dL_fights_159 rfl ?_
    refine g_iload_n h 1 dL_fights_161 rfl rfl ?_
    refine g_icmp_eq h 171 dL_fights_162 (by decide) (fun hc8 => ?_) (fun hc8 => ?_)
    · skip
      refine g_sub (lv' := [(0, .ref (th ω 0 0)), (4, .int b4), (5, .long j5), (9, .int b9)]) [0, 3, 4, 5] rfl ?_
      exact b_L_fights_171 h hR (CtOk.mono hcx (by omega)) _ _ _ _
    · skip
      refine g_iload h 3 dL_fights_165 rfl ?_
      refine g_iload_n h 2 dL_fights_167 rfl rfl ?_
      refine g_icmp_ne h 219 dL_fights_168 (by decide) (fun hc9 => ?_) (fun hc9 => ?_)
      · skip
        refine g_sub (lv' := [(0, .ref (th ω 0 0)), (4, .int b4), (5, .long j5), (9, .int b9)]) [0, 3, 4, 5] rfl ?_
        exact b_L_fights_171 h hR (CtOk.mono hcx (by omega)) _ _ _ _
      · skip
        refine g_sub (lv' := [(0, .ref (th ω 0 0)), (5, .long j5)]) [0, 4] rfl ?_
        exact b_L_fights_219 h hR (CtOk.mono hcx (by omega)) _ _
set_option maxHeartbeats 4000000 in
set_option maxRecDepth 100000 in
theorem b_L_fights_71 {Γ : Cx} {l : Launch} {ω : Wd} {ct : Nat}  (h : CxOk Γ l ⟨6, 1, 3, 146⟩ 11 ω LC cL_fights yL_fights.cls wsL_fights) (hR : RetI Γ ω LC cL_fights .boolean) (hcx : CtOk Γ (ct + 1)) : ∀ (b1 : Int32) (b2 : Int32) (b4 : Int32) (j5 : Int64) (b7 : Int32) (b8 : Int32) (s0 : Int32) (M : Mm), Gq ct Γ ω LC eI 71 [(0, .ref (th ω 0 0)), (1, .int b1), (2, .int b2), (4, .int b4), (5, .long j5), (7, .int b7), (8, .int b8)] [.int s0] M (m_L_fights_71 b1 b2 b4 j5 b7 b8 s0 M) := by
  intro b1 b2 b4 j5 b7 b8 s0 M
  unfold m_L_fights_71
  refine g_istore h (lv' := [(9, .int s0), (0, .ref (th ω 0 0)), (1, .int b1), (2, .int b2), (4, .int b4), (5, .long j5), (7, .int b7), (8, .int b8)]) dL_fights_71 (by decide) [0, 1, 2, 3, 4, 5, 6, 7] rfl ?_
  refine g_iload h 7 dL_fights_73 rfl ?_
  refine g_iconst h 1 dL_fights_75 (by decide) ?_
  refine g_icmp_lt h 219 dL_fights_76 (by decide) (fun hc1 => ?_) (fun hc1 => ?_)
  · skip
    refine g_sub (lv' := [(0, .ref (th ω 0 0)), (5, .long j5)]) [1, 5] rfl ?_
    exact b_L_fights_219 h hR (CtOk.mono hcx (by omega)) _ _
  · skip
    refine g_iload h 7 dL_fights_79 rfl ?_
    refine g_bipush h 20 dL_fights_81 (by decide) ?_
    refine g_icmp_gt h 219 dL_fights_83 (by decide) (fun hc2 => ?_) (fun hc2 => ?_)
    · skip
      refine g_sub (lv' := [(0, .ref (th ω 0 0)), (5, .long j5)]) [1, 5] rfl ?_
      exact b_L_fights_219 h hR (CtOk.mono hcx (by omega)) _ _
    · skip
      refine g_aload_n h 1 dL_fights_86 rfl rfl ?_
      refine g_bipush h 6 dL_fights_87 (by decide) ?_
      refine g_callI h (As := [.int 6]) (fun t => t) (fun r t hG => c_X5_count l ω _ 6 hG) iC_0_0 (C := RX5) (T := TX5) (N := 8) rfl 1 rfl gL_fights_X5_count rfl rfl rfl (by decide +kernel) (by decide) (st0 := _) rfl (Nat.le_of_ble_eq_true rfl) dL_fights_89 (fun r3 M4 => ?_)
      refine g_iload h 6 dL_fights_92 rfl ?_
      refine g_iload h 7 dL_fights_94 rfl ?_
      refine g_iadd h dL_fights_96 ?_
      refine g_icmp_ne h 219 dL_fights_97 (by decide) (fun hc5 => ?_) (fun hc5 => ?_)
      · skip
        refine g_iload h 7 dL_fights_100 rfl ?_
        refine g_bipush h 20 dL_fights_102 (by decide) ?_
        refine g_icmp_eq h 125 dL_fights_104 (by decide) (fun hc6 => ?_) (fun hc6 => ?_)
        · skip
          refine g_sub (lv' := [(0, .ref (th ω 0 0)), (1, .int b1), (2, .int b2), (4, .int b4), (5, .long j5), (9, .int s0)]) [1, 2, 3, 4, 5, 0] rfl ?_
          exact b_L_fights_125 h hR (CtOk.mono hcx (by omega)) _ _ _ _ _ _
        · skip
          refine g_aload_n h 1 dL_fights_107 rfl rfl ?_
          refine g_iload_n h 2 dL_fights_108 rfl rfl ?_
          refine g_bipush h 6 dL_fights_109 (by decide) ?_
          refine g_callI h (As := [.int b1, .int 6]) (fun t => t) (fun r t hG => c_X5_conker l ω _ b1 6 hG) iC_0_0 (C := RX5) (T := TX5) (N := 8) rfl 2 rfl gL_fights_X5_conker rfl rfl rfl (by decide +kernel) (by decide) (st0 := _) rfl (Nat.le_of_ble_eq_true rfl) dL_fights_111 (fun r7 M8 => ?_)
          refine g_aload_n h 1 dL_fights_114 rfl rfl ?_
          refine g_iload_n h 3 dL_fights_115 rfl rfl ?_
          refine g_bipush h 6 dL_fights_116 (by decide) ?_
          refine g_callI h (As := [.int b2, .int 6]) (fun t => t) (fun r t hG => c_X5_conker l ω _ b2 6 hG) iC_0_0 (C := RX5) (T := TX5) (N := 8) rfl 2 rfl gL_fights_X5_conker rfl rfl rfl (by decide +kernel) (by decide) (st0 := _) rfl (Nat.le_of_ble_eq_true rfl) dL_fights_118 (fun r9 M10 => ?_)
          refine g_iadd h dL_fights_121 ?_
          refine g_if_le h 219 dL_fights_122 (by decide) (fun hc11 => ?_) (fun hc11 => ?_)
          · skip
            refine g_sub (lv' := [(0, .ref (th ω 0 0)), (5, .long j5)]) [1, 5] rfl ?_
            exact b_L_fights_219 h hR (CtOk.mono hcx (by omega)) _ _
          · skip
            refine g_sub (lv' := [(0, .ref (th ω 0 0)), (1, .int b1), (2, .int b2), (4, .int b4), (5, .long j5), (9, .int s0)]) [1, 2, 3, 4, 5, 0] rfl ?_
            exact b_L_fights_125 h hR (CtOk.mono hcx (by omega)) _ _ _ _ _ _
      · skip
        refine g_sub (lv' := [(0, .ref (th ω 0 0)), (5, .long j5)]) [1, 5] rfl ?_
        exact b_L_fights_219 h hR (CtOk.mono hcx (by omega)) _ _
set_option maxHeartbeats 4000000 in
set_option maxRecDepth 100000 in
theorem c_L_fights (l : Launch) (ω : Wd)  (M : Mm) (a1 : Int32) (a2 : Int32) (a3 : Int32) {r : Int32} {M' : Mm} (hm : m_L_fights a1 a2 a3 M = some (r, M')) : MI l yL_fights wsL_fights ⟨6, 1, 3, 146⟩ ω LC [.ref (th ω 0 0), .int a1, .int a2, .int a3] M r M' := by
  refine met_i (cc := cL_fights) (maxL := 11) (ty := .boolean) (by decide +kernel) rfl (Nat.le_of_ble_eq_true rfl) LC_nd ?_
  intro Γ h hR ht
  suffices K : Gq 0 Γ ω LC eI 0 [(0, .ref (th ω 0 0)), (1, .int a1), (2, .int a2), (3, .int a3)] [] M (m_L_fights a1 a2 a3 M) from K (r, M') hm ht (c0 Γ)
  have hcx : CtOk Γ (0 + 1) := ctRm h (by decide) (by decide)
  unfold m_L_fights
  refine g_aload_n h 0 dL_fights_0 rfl rfl ?_
  refine g_iload_n h 1 dL_fights_1 rfl rfl ?_
  refine g_iload_n h 2 dL_fights_2 rfl rfl ?_
  refine g_iload_n h 3 dL_fights_3 rfl rfl ?_
  refine g_callI h (As := [.int a1, .int a2, .int a3]) (fun t => t) (fun r t hG => c_X5_winner l ω _ a1 a2 a3 hG) iC_0_0 (C := RX5) (T := TX5) (N := 8) rfl 3 rfl gL_fights_X5_winner rfl rfl rfl (by decide +kernel) (by decide) (st0 := _) rfl (Nat.le_of_ble_eq_true rfl) dL_fights_4 (fun r1 M2 => ?_)
  refine g_istore h (lv' := [(4, .int r1), (0, .ref (th ω 0 0)), (1, .int a1), (2, .int a2), (3, .int a3)]) dL_fights_7 (by decide) [0, 1, 2, 3, 4] rfl ?_
  refine g_aload_n h 1 dL_fights_9 rfl rfl ?_
  refine g_callJ h (As := [.ref (th ω 0 0)]) (fun r t hG => c_L_print l ω _ hG) 1 rfl gL_fights_L_print rfl rfl rfl (by decide +kernel) (by decide) (st0 := _) rfl (Nat.le_of_ble_eq_true rfl) dL_fights_10 (fun r3 M4 => ?_)
  refine g_lstore h (lv' := [(5, .long r3), (4, .int r1), (0, .ref (th ω 0 0)), (1, .int a1), (2, .int a2), (3, .int a3)]) dL_fights_13 (by decide) [0, 1, 2, 3, 4, 5] rfl ?_
  refine g_aload_n h 2 dL_fights_15 rfl rfl ?_
  refine g_bipush h 6 dL_fights_16 (by decide) ?_
  refine g_callI h (As := [.int 6]) (fun t => t) (fun r t hG => c_X5_count l ω _ 6 hG) iC_0_0 (C := RX5) (T := TX5) (N := 8) rfl 1 rfl gL_fights_X5_count rfl rfl rfl (by decide +kernel) (by decide) (st0 := _) rfl (Nat.le_of_ble_eq_true rfl) dL_fights_18 (fun r5 M6 => ?_)
  refine g_istore h (lv' := [(7, .int r5), (5, .long r3), (4, .int r1), (0, .ref (th ω 0 0)), (1, .int a1), (2, .int a2), (3, .int a3)]) dL_fights_21 (by decide) [0, 1, 2, 3, 4, 5, 6] rfl ?_
  refine g_aload_n h 3 dL_fights_23 rfl rfl ?_
  refine g_iload_n h 4 dL_fights_24 rfl rfl ?_
  refine g_iload_n h 5 dL_fights_25 rfl rfl ?_
  refine g_iload_n h 6 dL_fights_26 rfl rfl ?_
  refine g_callI h (As := [.int a1, .int a2, .int a3]) (fun t => t) (fun r t hG => c_X5_bout l ω _ a1 a2 a3 hG) iC_0_0 (C := RX5) (T := TX5) (N := 8) rfl 3 rfl gL_fights_X5_bout rfl rfl rfl (by decide +kernel) (by decide) (st0 := _) rfl (Nat.le_of_ble_eq_true rfl) dL_fights_27 (fun r7 M8 => ?_)
  refine g_istore h (lv' := [(8, .int r7), (7, .int r5), (5, .long r3), (4, .int r1), (0, .ref (th ω 0 0)), (1, .int a1), (2, .int a2), (3, .int a3)]) dL_fights_30 (by decide) [0, 1, 2, 3, 4, 5, 6, 7] rfl ?_
  refine g_iload h 0 dL_fights_32 rfl ?_
  refine g_if_ge h 60 dL_fights_34 (by decide) (fun hc9 => ?_) (fun hc9 => ?_)
  · skip
    refine g_iload h 3 dL_fights_60 rfl ?_
    refine g_iload_n h 5 dL_fights_62 rfl rfl ?_
    refine g_icmp_ne h 70 dL_fights_63 (by decide) (fun hc10 => ?_) (fun hc10 => ?_)
    · skip
      refine g_iload_n h 6 dL_fights_66 rfl rfl ?_
      refine g_goto h (tgt := 71) dL_fights_67 (by decide) ?_
      refine g_sub (lv' := [(0, .ref (th ω 0 0)), (1, .int a1), (2, .int a2), (4, .int r1), (5, .long r3), (7, .int r5), (8, .int r7)]) [4, 5, 6, 3, 2, 1, 0] rfl ?_
      exact b_L_fights_71 h hR (CtOk.mono hcx (by omega)) _ _ _ _ _ _ _ _
    · skip
      refine g_iload_n h 5 dL_fights_70 rfl rfl ?_
      refine g_sub (lv' := [(0, .ref (th ω 0 0)), (1, .int a1), (2, .int a2), (4, .int r1), (5, .long r3), (7, .int r5), (8, .int r7)]) [4, 5, 6, 3, 2, 1, 0] rfl ?_
      exact b_L_fights_71 h hR (CtOk.mono hcx (by omega)) _ _ _ _ _ _ _ _
  · skip
    refine g_iload h 0 dL_fights_37 rfl ?_
    refine g_iload h 3 dL_fights_39 rfl ?_
    refine g_icmp_ne h 58 dL_fights_41 (by decide) (fun hc11 => ?_) (fun hc11 => ?_)
    · skip
      refine g_aload_n h 4 dL_fights_44 rfl rfl ?_
      refine g_callJ h (As := [.ref (th ω 0 0)]) (fun r t hG => c_L_print l ω _ hG) 1 rfl gL_fights_L_print rfl rfl rfl (by decide +kernel) (by decide) (st0 := _) rfl (Nat.le_of_ble_eq_true rfl) dL_fights_45 (fun r12 M13 => ?_)
      refine g_lload h 2 dL_fights_48 rfl ?_
      refine g_lcmp h dL_fights_50 ?_
      refine g_if_ne h 58 dL_fights_51 (by decide) (fun hc14 => ?_) (fun hc14 => ?_)
      · skip
        refine g_iconst h 1 dL_fights_54 (by decide) ?_
        refine g_goto h (tgt := 59) dL_fights_55 (by decide) ?_
        exact g_iret hR (by decide) dL_fights_59
      · skip
        refine g_iconst h 0 dL_fights_58 (by decide) ?_
        exact g_iret hR (by decide) dL_fights_59
    · skip
      refine g_iconst h 0 dL_fights_58 (by decide) ?_
      exact g_iret hR (by decide) dL_fights_59
set_option maxHeartbeats 4000000 in
set_option maxRecDepth 100000 in
theorem b_L_hangs_393 {Γ : Cx} {l : Launch} {ω : Wd} {ct : Nat}  (h : CxOk Γ l ⟨6, 1, 3, 143⟩ 10 ω LC cL_hangs yL_hangs.cls wsL_hangs) (hR : RetI Γ ω LC cL_hangs .boolean) (hcx : CtOk Γ (ct + 0)) (κ103 : Int32 → Int32 → Int32 → Mm → Option (Int32 × Mm)) (hκ103 : ∀ (b1 : Int32) (b3 : Int32) (b4 : Int32) (M : Mm), Gq ct Γ ω LC eI 103 [(0, .ref (th ω 0 0)), (1, .int b1), (3, .int b3), (4, .int b4)] [] M (κ103 b1 b3 b4 M)) : ∀ (b1 : Int32) (b3 : Int32) (b4 : Int32) (sf0 : UInt32) (sf1 : UInt32) (M : Mm), Gq ct Γ ω LC eI 393 [(0, .ref (th ω 0 0)), (1, .int b1), (3, .int b3), (4, .int b4)] [.float sf1, .float sf0] M (m_L_hangs_393 κ103 b1 b3 b4 sf0 sf1 M) := by
  intro b1 b3 b4 sf0 sf1 M
  unfold m_L_hangs_393
  refine g_fcmp h dL_hangs_393 ?_
  refine g_if_eq h 399 dL_hangs_394 (by decide) (fun hc1 => ?_) (fun hc1 => ?_)
  · skip
    refine g_iinc h (b4 + 1) (lv' := [(4, .int (b4 + 1)), (0, .ref (th ω 0 0)), (1, .int b1), (3, .int b3)]) dL_hangs_399 3 rfl (congrArg (fun z => b4 + z) (by decide)) (by decide) [0, 1, 2, 3] rfl ?_
    refine g_goto h (tgt := 103) dL_hangs_402 (by decide) ?_
    refine g_sub (lv' := [(0, .ref (th ω 0 0)), (1, .int b1), (3, .int b3), (4, .int (b4 + 1))]) [1, 2, 3, 0] rfl ?_
    exact hκ103 _ _ _ _
  · skip
    refine g_iconst h 0 dL_hangs_397 (by decide) ?_
    exact g_iret hR (by decide) dL_hangs_398
set_option maxHeartbeats 4000000 in
set_option maxRecDepth 100000 in
theorem b_L_hangs_338 {Γ : Cx} {l : Launch} {ω : Wd} {ct : Nat}  (h : CxOk Γ l ⟨6, 1, 3, 143⟩ 10 ω LC cL_hangs yL_hangs.cls wsL_hangs) (hR : RetI Γ ω LC cL_hangs .boolean) (hcx : CtOk Γ (ct + 0)) (κ103 : Int32 → Int32 → Int32 → Mm → Option (Int32 × Mm)) (hκ103 : ∀ (b1 : Int32) (b3 : Int32) (b4 : Int32) (M : Mm), Gq ct Γ ω LC eI 103 [(0, .ref (th ω 0 0)), (1, .int b1), (3, .int b3), (4, .int b4)] [] M (κ103 b1 b3 b4 M)) : ∀ (b1 : Int32) (b3 : Int32) (b4 : Int32) (M : Mm), Gq ct Γ ω LC eI 338 [(0, .ref (th ω 0 0)), (1, .int b1), (3, .int b3), (4, .int b4)] [] M (m_L_hangs_338 κ103 b1 b3 b4 M) := by
  intro b1 b3 b4 M
  unfold m_L_hangs_338
  refine g_aload_n h 0 dL_hangs_338 rfl rfl ?_
  refine g_iload h 3 dL_hangs_339 rfl ?_
  refine g_iconst h 0 dL_hangs_341 (by decide) ?_
  refine g_callI h (As := [.int b4, .int 0]) (fun t => t) (fun r t hG => c_X5_player l ω _ b4 0 hG) iC_0_0 (C := RX5) (T := TX5) (N := 8) rfl 2 rfl gL_hangs_X5_player rfl rfl rfl (by decide +kernel) (by decide) (st0 := _) rfl (Nat.le_of_ble_eq_true rfl) dL_hangs_342 (fun r1 M2 => ?_)
  refine g_if_lt h 397 dL_hangs_345 (by decide) (fun hc3 => ?_) (fun hc3 => ?_)
  · skip
    refine g_iconst h 0 dL_hangs_397 (by decide) ?_
    exact g_iret hR (by decide) dL_hangs_398
  · skip
    refine g_aload_n h 0 dL_hangs_348 rfl rfl ?_
    refine g_iload h 3 dL_hangs_349 rfl ?_
    refine g_iconst h 0 dL_hangs_351 (by decide) ?_
    refine g_callI h (As := [.int b4, .int 0]) (fun t => t) (fun r t hG => c_X5_player l ω _ b4 0 hG) iC_0_0 (C := RX5) (T := TX5) (N := 8) rfl 2 rfl gL_hangs_X5_player rfl rfl rfl (by decide +kernel) (by decide) (st0 := _) rfl (Nat.le_of_ble_eq_true rfl) dL_hangs_352 (fun r4 M5 => ?_)
    refine g_bipush h 20 dL_hangs_355 (by decide) ?_
    refine g_icmp_gt h 397 dL_hangs_357 (by decide) (fun hc6 => ?_) (fun hc6 => ?_)
    · skip
      refine g_iconst h 0 dL_hangs_397 (by decide) ?_
      exact g_iret hR (by decide) dL_hangs_398
    · skip
      refine g_aload_n h 0 dL_hangs_360 rfl rfl ?_
      refine g_iload h 3 dL_hangs_361 rfl ?_
      refine g_callF h (As := [.int b4]) (fun t => t) (fun r t hG => c_X5_share l ω _ b4 hG) iC_0_0 (C := RX5) (T := TX5) (N := 8) rfl 1 rfl gL_hangs_X5_share rfl rfl rfl (by decide +kernel) (by decide) (st0 := _) rfl (Nat.le_of_ble_eq_true rfl) dL_hangs_363 (fun r7 M8 => ?_)
      refine g_aload_n h 0 dL_hangs_366 rfl rfl ?_
      refine g_iconst h 4 dL_hangs_367 (by decide) ?_
      refine g_callI h (As := [.int 4]) (fun t => t) (fun r t hG => c_X5_count l ω _ 4 hG) iC_0_0 (C := RX5) (T := TX5) (N := 8) rfl 1 rfl gL_hangs_X5_count rfl rfl rfl (by decide +kernel) (by decide) (st0 := _) rfl (Nat.le_of_ble_eq_true rfl) dL_hangs_368 (fun r9 M10 => ?_)
      refine g_if_ne h 378 dL_hangs_371 (by decide) (fun hc11 => ?_) (fun hc11 => ?_)
      · skip
        refine g_fconst0 h dL_hangs_374 ?_
        refine g_goto h (tgt := 393) dL_hangs_375 (by decide) ?_
        exact b_L_hangs_393 h hR (CtOk.mono hcx (by omega)) _ hκ103 _ _ _ _ _ _
      · skip
        refine g_aload_n h 0 dL_hangs_378 rfl rfl ?_
        refine g_iload h 3 dL_hangs_379 rfl ?_
        refine g_iconst h 5 dL_hangs_381 (by decide) ?_
        refine g_callI h (As := [.int b4, .int 5]) (fun t => t) (fun r t hG => c_X5_player l ω _ b4 5 hG) iC_0_0 (C := RX5) (T := TX5) (N := 8) rfl 2 rfl gL_hangs_X5_player rfl rfl rfl (by decide +kernel) (by decide) (st0 := _) rfl (Nat.le_of_ble_eq_true rfl) dL_hangs_382 (fun r12 M13 => ?_)
        refine g_i2f h dL_hangs_385 ?_
        refine g_aload_n h 0 dL_hangs_386 rfl rfl ?_
        refine g_iconst h 4 dL_hangs_387 (by decide) ?_
        refine g_callI h (As := [.int 4]) (fun t => t) (fun r t hG => c_X5_count l ω _ 4 hG) iC_0_0 (C := RX5) (T := TX5) (N := 8) rfl 1 rfl gL_hangs_X5_count rfl rfl rfl (by decide +kernel) (by decide) (st0 := _) rfl (Nat.le_of_ble_eq_true rfl) dL_hangs_388 (fun r14 M15 => ?_)
        refine g_i2f h dL_hangs_391 ?_
        refine g_fdiv h dL_hangs_392 ?_
        exact b_L_hangs_393 h hR (CtOk.mono hcx (by omega)) _ hκ103 _ _ _ _ _ _
set_option maxHeartbeats 4000000 in
set_option maxRecDepth 100000 in
theorem b_L_hangs_307 {Γ : Cx} {l : Launch} {ω : Wd} {ct : Nat}  (h : CxOk Γ l ⟨6, 1, 3, 143⟩ 10 ω LC cL_hangs yL_hangs.cls wsL_hangs) (hR : RetI Γ ω LC cL_hangs .boolean) (hcx : CtOk Γ (ct + 0)) (κ103 : Int32 → Int32 → Int32 → Mm → Option (Int32 × Mm)) (hκ103 : ∀ (b1 : Int32) (b3 : Int32) (b4 : Int32) (M : Mm), Gq ct Γ ω LC eI 103 [(0, .ref (th ω 0 0)), (1, .int b1), (3, .int b3), (4, .int b4)] [] M (κ103 b1 b3 b4 M)) : ∀ (b1 : Int32) (b3 : Int32) (b4 : Int32) (b5 : Int32) (s0 : Int32) (s1 : Int32) (M : Mm), Gq ct Γ ω LC eI 307 [(0, .ref (th ω 0 0)), (1, .int b1), (3, .int b3), (4, .int b4), (5, .int b5)] [.int s1, .int s0] M (m_L_hangs_307 κ103 b1 b3 b4 b5 s0 s1 M) := by
  intro b1 b3 b4 b5 s0 s1 M
  unfold m_L_hangs_307
  refine g_icmp_ne h 397 dL_hangs_307 (by decide) (fun hc1 => ?_) (fun hc1 => ?_)
  · skip
    refine g_iload h 4 dL_hangs_310 rfl ?_
    refine g_if_lt h 338 dL_hangs_312 (by decide) (fun hc2 => ?_) (fun hc2 => ?_)
    · skip
      refine g_sub (lv' := [(0, .ref (th ω 0 0)), (1, .int b1), (3, .int b3), (4, .int b4)]) [0, 1, 2, 3] rfl ?_
      exact b_L_hangs_338 h hR (CtOk.mono hcx (by omega)) _ hκ103 _ _ _ _
    · skip
      refine g_aload_n h 0 dL_hangs_315 rfl rfl ?_
      refine g_iload h 4 dL_hangs_316 rfl ?_
      refine g_iconst h 0 dL_hangs_318 (by decide) ?_
      refine g_callI h (As := [.int b5, .int 0]) (fun t => t) (fun r t hG => c_X5_conker l ω _ b5 0 hG) iC_0_0 (C := RX5) (T := TX5) (N := 8) rfl 2 rfl gL_hangs_X5_conker rfl rfl rfl (by decide +kernel) (by decide) (st0 := _) rfl (Nat.le_of_ble_eq_true rfl) dL_hangs_319 (fun r3 M4 => ?_)
      refine g_iload h 3 dL_hangs_322 rfl ?_
      refine g_icmp_ne h 397 dL_hangs_324 (by decide) (fun hc5 => ?_) (fun hc5 => ?_)
      · skip
        refine g_aload_n h 0 dL_hangs_327 rfl rfl ?_
        refine g_iload h 4 dL_hangs_328 rfl ?_
        refine g_bipush h 6 dL_hangs_330 (by decide) ?_
        refine g_callI h (As := [.int b5, .int 6]) (fun t => t) (fun r t hG => c_X5_conker l ω _ b5 6 hG) iC_0_0 (C := RX5) (T := TX5) (N := 8) rfl 2 rfl gL_hangs_X5_conker rfl rfl rfl (by decide +kernel) (by decide) (st0 := _) rfl (Nat.le_of_ble_eq_true rfl) dL_hangs_332 (fun r6 M7 => ?_)
        refine g_if_ne h 397 dL_hangs_335 (by decide) (fun hc8 => ?_) (fun hc8 => ?_)
        · skip
          refine g_sub (lv' := [(0, .ref (th ω 0 0)), (1, .int b1), (3, .int b3), (4, .int b4)]) [0, 1, 2, 3] rfl ?_
          exact b_L_hangs_338 h hR (CtOk.mono hcx (by omega)) _ hκ103 _ _ _ _
        · skip
          refine g_iconst h 0 dL_hangs_397 (by decide) ?_
          exact g_iret hR (by decide) dL_hangs_398
      · skip
        refine g_iconst h 0 dL_hangs_397 (by decide) ?_
        exact g_iret hR (by decide) dL_hangs_398
  · skip
    refine g_iconst h 0 dL_hangs_397 (by decide) ?_
    exact g_iret hR (by decide) dL_hangs_398
set_option maxHeartbeats 4000000 in
set_option maxRecDepth 100000 in
theorem b_L_hangs_292 {Γ : Cx} {l : Launch} {ω : Wd} {ct : Nat}  (h : CxOk Γ l ⟨6, 1, 3, 143⟩ 10 ω LC cL_hangs yL_hangs.cls wsL_hangs) (hR : RetI Γ ω LC cL_hangs .boolean) (hcx : CtOk Γ (ct + 0)) (κ103 : Int32 → Int32 → Int32 → Mm → Option (Int32 × Mm)) (hκ103 : ∀ (b1 : Int32) (b3 : Int32) (b4 : Int32) (M : Mm), Gq ct Γ ω LC eI 103 [(0, .ref (th ω 0 0)), (1, .int b1), (3, .int b3), (4, .int b4)] [] M (κ103 b1 b3 b4 M)) : ∀ (b1 : Int32) (b3 : Int32) (b4 : Int32) (b5 : Int32) (s0 : Int32) (M : Mm), Gq ct Γ ω LC eI 292 [(0, .ref (th ω 0 0)), (1, .int b1), (3, .int b3), (4, .int b4), (5, .int b5)] [.int s0] M (m_L_hangs_292 κ103 b1 b3 b4 b5 s0 M) := by
  intro b1 b3 b4 b5 s0 M
  unfold m_L_hangs_292
  refine g_aload_n h 0 dL_hangs_292 rfl rfl ?_
  refine g_iload h 3 dL_hangs_293 rfl ?_
  refine g_iconst h 2 dL_hangs_295 (by decide) ?_
  refine g_callI h (As := [.int b4, .int 2]) (fun t => t) (fun r t hG => c_X5_player l ω _ b4 2 hG) iC_0_0 (C := RX5) (T := TX5) (N := 8) rfl 2 rfl gL_hangs_X5_player rfl rfl rfl (by decide +kernel) (by decide) (st0 := _) rfl (Nat.le_of_ble_eq_true rfl) dL_hangs_296 (fun r1 M2 => ?_)
  refine g_if_ne h 306 dL_hangs_299 (by decide) (fun hc3 => ?_) (fun hc3 => ?_)
  · skip
    refine g_iconst h 1 dL_hangs_302 (by decide) ?_
    refine g_goto h (tgt := 307) dL_hangs_303 (by decide) ?_
    exact b_L_hangs_307 h hR (CtOk.mono hcx (by omega)) _ hκ103 _ _ _ _ _ _ _
  · skip
    refine g_iconst h 0 dL_hangs_306 (by decide) ?_
    exact b_L_hangs_307 h hR (CtOk.mono hcx (by omega)) _ hκ103 _ _ _ _ _ _ _
set_option maxHeartbeats 4000000 in
set_option maxRecDepth 100000 in
theorem b_L_hangs_259 {Γ : Cx} {l : Launch} {ω : Wd} {ct : Nat}  (h : CxOk Γ l ⟨6, 1, 3, 143⟩ 10 ω LC cL_hangs yL_hangs.cls wsL_hangs) (hR : RetI Γ ω LC cL_hangs .boolean) (hcx : CtOk Γ (ct + 0)) (κ103 : Int32 → Int32 → Int32 → Mm → Option (Int32 × Mm)) (hκ103 : ∀ (b1 : Int32) (b3 : Int32) (b4 : Int32) (M : Mm), Gq ct Γ ω LC eI 103 [(0, .ref (th ω 0 0)), (1, .int b1), (3, .int b3), (4, .int b4)] [] M (κ103 b1 b3 b4 M)) (κ151 : Int32 → Int32 → Int32 → Int32 → Int32 → Int32 → Int32 → Mm → Option (Int32 × Mm)) (hκ151 : ∀ (b1 : Int32) (b3 : Int32) (b4 : Int32) (b5 : Int32) (b6 : Int32) (b7 : Int32) (b8 : Int32) (M : Mm), Gq ct Γ ω LC eI 151 [(0, .ref (th ω 0 0)), (1, .int b1), (3, .int b3), (4, .int b4), (5, .int b5), (6, .int b6), (7, .int b7), (8, .int b8)] [] M (κ151 b1 b3 b4 b5 b6 b7 b8 M)) : ∀ (b1 : Int32) (b3 : Int32) (b4 : Int32) (b5 : Int32) (b6 : Int32) (b7 : Int32) (b8 : Int32) (M : Mm), Gq ct Γ ω LC eI 259 [(0, .ref (th ω 0 0)), (1, .int b1), (3, .int b3), (4, .int b4), (5, .int b5), (6, .int b6), (7, .int b7), (8, .int b8)] [] M (m_L_hangs_259 κ103 κ151 b1 b3 b4 b5 b6 b7 b8 M) := by
  intro b1 b3 b4 b5 b6 b7 b8 M
  unfold m_L_hangs_259
  refine g_iinc h (b8 + 1) (lv' := [(8, .int (b8 + 1)), (0, .ref (th ω 0 0)), (1, .int b1), (3, .int b3), (4, .int b4), (5, .int b5), (6, .int b6), (7, .int b7)]) dL_hangs_259 7 rfl (congrArg (fun z => b8 + z) (by decide)) (by decide) [0, 1, 2, 3, 4, 5, 6, 7] rfl ?_
  refine g_goto h (tgt := 151) dL_hangs_262 (by decide) ?_
  refine g_sub (lv' := [(0, .ref (th ω 0 0)), (1, .int b1), (3, .int b3), (4, .int b4), (5, .int b5), (6, .int b6), (7, .int b7), (8, .int (b8 + 1))]) [1, 2, 3, 4, 5, 6, 7, 0] rfl ?_
  exact hκ151 _ _ _ _ _ _ _ _
set_option maxHeartbeats 4000000 in
set_option maxRecDepth 100000 in
theorem b_L_hangs_192 {Γ : Cx} {l : Launch} {ω : Wd} {ct : Nat}  (h : CxOk Γ l ⟨6, 1, 3, 143⟩ 10 ω LC cL_hangs yL_hangs.cls wsL_hangs) (hR : RetI Γ ω LC cL_hangs .boolean) (hcx : CtOk Γ (ct + 0)) (κ103 : Int32 → Int32 → Int32 → Mm → Option (Int32 × Mm)) (hκ103 : ∀ (b1 : Int32) (b3 : Int32) (b4 : Int32) (M : Mm), Gq ct Γ ω LC eI 103 [(0, .ref (th ω 0 0)), (1, .int b1), (3, .int b3), (4, .int b4)] [] M (κ103 b1 b3 b4 M)) (κ151 : Int32 → Int32 → Int32 → Int32 → Int32 → Int32 → Int32 → Mm → Option (Int32 × Mm)) (hκ151 : ∀ (b1 : Int32) (b3 : Int32) (b4 : Int32) (b5 : Int32) (b6 : Int32) (b7 : Int32) (b8 : Int32) (M : Mm), Gq ct Γ ω LC eI 151 [(0, .ref (th ω 0 0)), (1, .int b1), (3, .int b3), (4, .int b4), (5, .int b5), (6, .int b6), (7, .int b7), (8, .int b8)] [] M (κ151 b1 b3 b4 b5 b6 b7 b8 M)) : ∀ (b1 : Int32) (b3 : Int32) (b4 : Int32) (b5 : Int32) (b6 : Int32) (b8 : Int32) (b9 : Int32) (s0 : Int32) (s1 : Int32) (M : Mm), Gq ct Γ ω LC eI 192 [(0, .ref (th ω 0 0)), (1, .int b1), (3, .int b3), (4, .int b4), (5, .int b5), (6, .int b6), (8, .int b8), (9, .int b9)] [.int s1, .int s0] M (m_L_hangs_192 κ103 κ151 b1 b3 b4 b5 b6 b8 b9 s0 s1 M) := by
  intro b1 b3 b4 b5 b6 b8 b9 s0 s1 M
  unfold m_L_hangs_192
  refine g_iadd h dL_hangs_192 ?_
  refine g_istore h (lv' := [(7, .int (s0 + s1)), (0, .ref (th ω 0 0)), (1, .int b1), (3, .int b3), (4, .int b4), (5, .int b5), (6, .int b6), (8, .int b8), (9, .int b9)]) dL_hangs_193 (by decide) [0, 1, 2, 3, 4, 5, 6, 7, 8] rfl ?_
  refine g_iload h 8 dL_hangs_195 rfl ?_
  refine g_if_eq h 259 dL_hangs_197 (by decide) (fun hc1 => ?_) (fun hc1 => ?_)
  · skip
    refine g_sub (lv' := [(0, .ref (th ω 0 0)), (1, .int b1), (3, .int b3), (4, .int b4), (5, .int b5), (6, .int b6), (7, .int (s0 + s1)), (8, .int b8)]) [1, 2, 3, 4, 5, 6, 0, 7] rfl ?_
    exact b_L_hangs_259 h hR (CtOk.mono hcx (by omega)) _ hκ103 _ hκ151 _ _ _ _ _ _ _ _
  · skip
    refine g_aload_n h 1 dL_hangs_200 rfl rfl ?_
    refine g_iload h 7 dL_hangs_201 rfl ?_
    refine g_bipush h 6 dL_hangs_203 (by decide) ?_
    refine g_callI h (As := [.int b8, .int 6]) (fun t => t) (fun r t hG => c_X5_conker l ω _ b8 6 hG) iC_0_0 (C := RX5) (T := TX5) (N := 8) rfl 2 rfl gL_hangs_X5_conker rfl rfl rfl (by decide +kernel) (by decide) (st0 := _) rfl (Nat.le_of_ble_eq_true rfl) dL_hangs_205 (fun r2 M3 => ?_)
    refine g_if_ne h 259 dL_hangs_208 (by decide) (fun hc4 => ?_) (fun hc4 => ?_)
    · skip
      refine g_iload h 5 dL_hangs_211 rfl ?_
      refine g_if_lt h 257 dL_hangs_213 (by decide) (fun hc5 => ?_) (fun hc5 => ?_)
      · skip
        refine g_iconst h 0 dL_hangs_257 (by decide) ?_
        exact g_iret hR (by decide) dL_hangs_258
      · skip
        refine g_aload_n h 1 dL_hangs_216 rfl rfl ?_
        refine g_iload h 7 dL_hangs_217 rfl ?_
        refine g_iconst h 4 dL_hangs_219 (by decide) ?_
        refine g_callI h (As := [.int b8, .int 4]) (fun t => t) (fun r t hG => c_X5_conker l ω _ b8 4 hG) iC_0_0 (C := RX5) (T := TX5) (N := 8) rfl 2 rfl gL_hangs_X5_conker rfl rfl rfl (by decide +kernel) (by decide) (st0 := _) rfl (Nat.le_of_ble_eq_true rfl) dL_hangs_220 (fun r6 M7 => ?_)
        refine g_aload_n h 1 dL_hangs_223 rfl rfl ?_
        refine g_iload h 5 dL_hangs_224 rfl ?_
        refine g_iconst h 4 dL_hangs_226 (by decide) ?_
        refine g_callI h (As := [.int b5, .int 4]) (fun t => t) (fun r t hG => c_X5_conker l ω _ b5 4 hG) iC_0_0 (C := RX5) (T := TX5) (N := 8) rfl 2 rfl gL_hangs_X5_conker rfl rfl rfl (by decide +kernel) (by decide) (st0 := _) rfl (Nat.le_of_ble_eq_true rfl) dL_hangs_227 (fun r8 M9 => ?_)
        refine g_icmp_gt h 257 dL_hangs_230 (by decide) (fun hc10 => ?_) (fun hc10 => ?_)
        · skip
          refine g_iconst h 0 dL_hangs_257 (by decide) ?_
          exact g_iret hR (by decide) dL_hangs_258
        · skip
          refine g_aload_n h 1 dL_hangs_233 rfl rfl ?_
          refine g_iload h 7 dL_hangs_234 rfl ?_
          refine g_iconst h 4 dL_hangs_236 (by decide) ?_
          refine g_callI h (As := [.int b8, .int 4]) (fun t => t) (fun r t hG => c_X5_conker l ω _ b8 4 hG) iC_0_0 (C := RX5) (T := TX5) (N := 8) rfl 2 rfl gL_hangs_X5_conker rfl rfl rfl (by decide +kernel) (by decide) (st0 := _) rfl (Nat.le_of_ble_eq_true rfl) dL_hangs_237 (fun r11 M12 => ?_)
          refine g_aload_n h 1 dL_hangs_240 rfl rfl ?_
          refine g_iload h 5 dL_hangs_241 rfl ?_
          refine g_iconst h 4 dL_hangs_243 (by decide) ?_
          refine g_callI h (As := [.int b5, .int 4]) (fun t => t) (fun r t hG => c_X5_conker l ω _ b5 4 hG) iC_0_0 (C := RX5) (T := TX5) (N := 8) rfl 2 rfl gL_hangs_X5_conker rfl rfl rfl (by decide +kernel) (by decide) (st0 := _) rfl (Nat.le_of_ble_eq_true rfl) dL_hangs_244 (fun r13 M14 => ?_)
          refine g_icmp_ne h 259 dL_hangs_247 (by decide) (fun hc15 => ?_) (fun hc15 => ?_)
          · skip
            refine g_iload h 7 dL_hangs_250 rfl ?_
            refine g_iload h 5 dL_hangs_252 rfl ?_
            refine g_icmp_ge h 259 dL_hangs_254 (by decide) (fun hc16 => ?_) (fun hc16 => ?_)
            · skip
              refine g_sub (lv' := [(0, .ref (th ω 0 0)), (1, .int b1), (3, .int b3), (4, .int b4), (5, .int b5), (6, .int b6), (7, .int (s0 + s1)), (8, .int b8)]) [1, 2, 3, 4, 5, 6, 0, 7] rfl ?_
              exact b_L_hangs_259 h hR (CtOk.mono hcx (by omega)) _ hκ103 _ hκ151 _ _ _ _ _ _ _ _
            · skip
              refine g_iconst h 0 dL_hangs_257 (by decide) ?_
              exact g_iret hR (by decide) dL_hangs_258
          · skip
            refine g_sub (lv' := [(0, .ref (th ω 0 0)), (1, .int b1), (3, .int b3), (4, .int b4), (5, .int b5), (6, .int b6), (7, .int (s0 + s1)), (8, .int b8)]) [1, 2, 3, 4, 5, 6, 0, 7] rfl ?_
            exact b_L_hangs_259 h hR (CtOk.mono hcx (by omega)) _ hκ103 _ hκ151 _ _ _ _ _ _ _ _
    · skip
      refine g_sub (lv' := [(0, .ref (th ω 0 0)), (1, .int b1), (3, .int b3), (4, .int b4), (5, .int b5), (6, .int b6), (7, .int (s0 + s1)), (8, .int b8)]) [1, 2, 3, 4, 5, 6, 0, 7] rfl ?_
      exact b_L_hangs_259 h hR (CtOk.mono hcx (by omega)) _ hκ103 _ hκ151 _ _ _ _ _ _ _ _
set_option maxHeartbeats 4000000 in
set_option maxRecDepth 100000 in
theorem b_L_hangs_178 {Γ : Cx} {l : Launch} {ω : Wd} {ct : Nat}  (h : CxOk Γ l ⟨6, 1, 3, 143⟩ 10 ω LC cL_hangs yL_hangs.cls wsL_hangs) (hR : RetI Γ ω LC cL_hangs .boolean) (hcx : CtOk Γ (ct + 0)) (κ103 : Int32 → Int32 → Int32 → Mm → Option (Int32 × Mm)) (hκ103 : ∀ (b1 : Int32) (b3 : Int32) (b4 : Int32) (M : Mm), Gq ct Γ ω LC eI 103 [(0, .ref (th ω 0 0)), (1, .int b1), (3, .int b3), (4, .int b4)] [] M (κ103 b1 b3 b4 M)) (κ151 : Int32 → Int32 → Int32 → Int32 → Int32 → Int32 → Int32 → Mm → Option (Int32 × Mm)) (hκ151 : ∀ (b1 : Int32) (b3 : Int32) (b4 : Int32) (b5 : Int32) (b6 : Int32) (b7 : Int32) (b8 : Int32) (M : Mm), Gq ct Γ ω LC eI 151 [(0, .ref (th ω 0 0)), (1, .int b1), (3, .int b3), (4, .int b4), (5, .int b5), (6, .int b6), (7, .int b7), (8, .int b8)] [] M (κ151 b1 b3 b4 b5 b6 b7 b8 M)) : ∀ (b1 : Int32) (b3 : Int32) (b4 : Int32) (b5 : Int32) (b6 : Int32) (b7 : Int32) (b8 : Int32) (s0 : Int32) (M : Mm), Gq ct Γ ω LC eI 178 [(0, .ref (th ω 0 0)), (1, .int b1), (3, .int b3), (4, .int b4), (5, .int b5), (6, .int b6), (7, .int b7), (8, .int b8)] [.int s0] M (m_L_hangs_178 κ103 κ151 b1 b3 b4 b5 b6 b7 b8 s0 M) := by
  intro b1 b3 b4 b5 b6 b7 b8 s0 M
  unfold m_L_hangs_178
  refine g_istore h (lv' := [(9, .int s0), (0, .ref (th ω 0 0)), (1, .int b1), (3, .int b3), (4, .int b4), (5, .int b5), (6, .int b6), (7, .int b7), (8, .int b8)]) dL_hangs_178 (by decide) [0, 1, 2, 3, 4, 5, 6, 7, 8] rfl ?_
  refine g_iload h 7 dL_hangs_180 rfl ?_
  refine g_iload h 0 dL_hangs_182 rfl ?_
  refine g_if_eq h 191 dL_hangs_184 (by decide) (fun hc1 => ?_) (fun hc1 => ?_)
  · skip
    refine g_iconst h 0 dL_hangs_191 (by decide) ?_
    refine g_sub (lv' := [(0, .ref (th ω 0 0)), (1, .int b1), (3, .int b3), (4, .int b4), (5, .int b5), (6, .int b6), (8, .int b8), (9, .int s0)]) [1, 2, 3, 4, 5, 6, 8, 0] rfl ?_
    exact b_L_hangs_192 h hR (CtOk.mono hcx (by omega)) _ hκ103 _ hκ151 _ _ _ _ _ _ _ _ _ _
  · skip
    refine g_iconst h 1 dL_hangs_187 (by decide) ?_
    refine g_goto h (tgt := 192) dL_hangs_188 (by decide) ?_
    refine g_sub (lv' := [(0, .ref (th ω 0 0)), (1, .int b1), (3, .int b3), (4, .int b4), (5, .int b5), (6, .int b6), (8, .int b8), (9, .int s0)]) [1, 2, 3, 4, 5, 6, 8, 0] rfl ?_
    exact b_L_hangs_192 h hR (CtOk.mono hcx (by omega)) _ hκ103 _ hκ151 _ _ _ _ _ _ _ _ _ _
set_option maxHeartbeats 4000000 in
set_option maxRecDepth 100000 in
theorem b_L_hangs_151 {Γ : Cx} {l : Launch} {ω : Wd} {ct : Nat}  (h : CxOk Γ l ⟨6, 1, 3, 143⟩ 10 ω LC cL_hangs yL_hangs.cls wsL_hangs) (hR : RetI Γ ω LC cL_hangs .boolean) (hcx : CtOk Γ (ct + 0)) (κ103 : Int32 → Int32 → Int32 → Mm → Option (Int32 × Mm)) (hκ103 : ∀ (b1 : Int32) (b3 : Int32) (b4 : Int32) (M : Mm), Gq ct Γ ω LC eI 103 [(0, .ref (th ω 0 0)), (1, .int b1), (3, .int b3), (4, .int b4)] [] M (κ103 b1 b3 b4 M)) : ∀ (n : Nat) (b1 : Int32) (b3 : Int32) (b4 : Int32) (b5 : Int32) (b6 : Int32) (b7 : Int32) (b8 : Int32) (M : Mm), Gq ct Γ ω LC eI 151 [(0, .ref (th ω 0 0)), (1, .int b1), (3, .int b3), (4, .int b4), (5, .int b5), (6, .int b6), (7, .int b7), (8, .int b8)] [] M (m_L_hangs_151 κ103 n b1 b3 b4 b5 b6 b7 b8 M) := by
  intro n
  induction n with
  | zero =>
    intro b1 b3 b4 b5 b6 b7 b8 M
    rw [m_L_hangs_151.eq_1]
    exact g_none
  | succ n ih =>
    intro b1 b3 b4 b5 b6 b7 b8 M
    rw [m_L_hangs_151.eq_2]
    refine g_iload h 7 dL_hangs_151 rfl ?_
    refine g_aload_n h 0 dL_hangs_153 rfl rfl ?_
    refine g_iconst h 0 dL_hangs_154 (by decide) ?_
    refine g_callI h (As := [.int 0]) (fun t => t) (fun r t hG => c_X5_count l ω _ 0 hG) iC_0_0 (C := RX5) (T := TX5) (N := 8) rfl 1 rfl gL_hangs_X5_count rfl rfl rfl (by decide +kernel) (by decide) (st0 := _) rfl (Nat.le_of_ble_eq_true rfl) dL_hangs_155 (fun r1 M2 => ?_)
    refine g_icmp_ge h 265 dL_hangs_158 (by decide) (fun hc3 => ?_) (fun hc3 => ?_)
    · skip
      refine g_iload_n h 2 dL_hangs_265 rfl rfl ?_
      refine g_aload_n h 0 dL_hangs_266 rfl rfl ?_
      refine g_iload h 3 dL_hangs_267 rfl ?_
      refine g_iconst h 5 dL_hangs_269 (by decide) ?_
      refine g_callI h (As := [.int b4, .int 5]) (fun t => t) (fun r t hG => c_X5_player l ω _ b4 5 hG) iC_0_0 (C := RX5) (T := TX5) (N := 8) rfl 2 rfl gL_hangs_X5_player rfl rfl rfl (by decide +kernel) (by decide) (st0 := _) rfl (Nat.le_of_ble_eq_true rfl) dL_hangs_270 (fun r4 M5 => ?_)
      refine g_iadd h dL_hangs_273 ?_
      refine g_istore_n h rfl (lv' := [(3, .int (b3 + r4)), (0, .ref (th ω 0 0)), (1, .int b1), (4, .int b4), (5, .int b5), (6, .int b6), (7, .int b7), (8, .int b8)]) dL_hangs_274 (by decide) [0, 1, 2, 3, 4, 5, 6, 7] rfl ?_
      refine g_iload h 5 dL_hangs_275 rfl ?_
      refine g_iload h 6 dL_hangs_277 rfl ?_
      refine g_icmp_ne h 397 dL_hangs_279 (by decide) (fun hc6 => ?_) (fun hc6 => ?_)
      · skip
        refine g_iload h 4 dL_hangs_282 rfl ?_
        refine g_if_ge h 291 dL_hangs_284 (by decide) (fun hc7 => ?_) (fun hc7 => ?_)
        · skip
          refine g_iconst h 0 dL_hangs_291 (by decide) ?_
          refine g_sub (lv' := [(0, .ref (th ω 0 0)), (1, .int b1), (3, .int (b3 + r4)), (4, .int b4), (5, .int b5)]) [1, 2, 0, 3, 4] rfl ?_
          exact b_L_hangs_292 h hR (CtOk.mono hcx (by omega)) _ hκ103 _ _ _ _ _ _
        · skip
          refine g_iconst h 1 dL_hangs_287 (by decide) ?_
          refine g_goto h (tgt := 292) dL_hangs_288 (by decide) ?_
          refine g_sub (lv' := [(0, .ref (th ω 0 0)), (1, .int b1), (3, .int (b3 + r4)), (4, .int b4), (5, .int b5)]) [1, 2, 0, 3, 4] rfl ?_
          exact b_L_hangs_292 h hR (CtOk.mono hcx (by omega)) _ hκ103 _ _ _ _ _ _
      · skip
        refine g_iconst h 0 dL_hangs_397 (by decide) ?_
        exact g_iret hR (by decide) dL_hangs_398
    · skip
      refine g_aload_n h 0 dL_hangs_161 rfl rfl ?_
      refine g_iload h 7 dL_hangs_162 rfl ?_
      refine g_iconst h 0 dL_hangs_164 (by decide) ?_
      refine g_callI h (As := [.int b8, .int 0]) (fun t => t) (fun r t hG => c_X5_conker l ω _ b8 0 hG) iC_0_0 (C := RX5) (T := TX5) (N := 8) rfl 2 rfl gL_hangs_X5_conker rfl rfl rfl (by decide +kernel) (by decide) (st0 := _) rfl (Nat.le_of_ble_eq_true rfl) dL_hangs_165 (fun r8 M9 => ?_)
      refine g_iload h 3 dL_hangs_168 rfl ?_
      refine g_icmp_ne h 177 dL_hangs_170 (by decide) (fun hc10 => ?_) (fun hc10 => ?_)
      · skip
        refine g_iconst h 1 dL_hangs_173 (by decide) ?_
        refine g_goto h (tgt := 178) dL_hangs_174 (by decide) ?_
        exact b_L_hangs_178 h hR (CtOk.mono hcx (by omega)) _ hκ103 _ ih _ _ _ _ _ _ _ _ _
      · skip
        refine g_iconst h 0 dL_hangs_177 (by decide) ?_
        exact b_L_hangs_178 h hR (CtOk.mono hcx (by omega)) _ hκ103 _ ih _ _ _ _ _ _ _ _ _
set_option maxHeartbeats 4000000 in
set_option maxRecDepth 100000 in
theorem b_L_hangs_103 {Γ : Cx} {l : Launch} {ω : Wd} {ct : Nat}  (h : CxOk Γ l ⟨6, 1, 3, 143⟩ 10 ω LC cL_hangs yL_hangs.cls wsL_hangs) (hR : RetI Γ ω LC cL_hangs .boolean) (hcx : CtOk Γ (ct + 1)) : ∀ (n : Nat) (b1 : Int32) (b3 : Int32) (b4 : Int32) (M : Mm), Gq ct Γ ω LC eI 103 [(0, .ref (th ω 0 0)), (1, .int b1), (3, .int b3), (4, .int b4)] [] M (m_L_hangs_103 n b1 b3 b4 M) := by
  intro n
  induction n with
  | zero =>
    intro b1 b3 b4 M
    rw [m_L_hangs_103.eq_1]
    exact g_none
  | succ n ih =>
    intro b1 b3 b4 M
    rw [m_L_hangs_103.eq_2]
    refine g_iload h 3 dL_hangs_103 rfl ?_
    refine g_bipush h 6 dL_hangs_105 (by decide) ?_
    refine g_icmp_ge h 405 dL_hangs_107 (by decide) (fun hc1 => ?_) (fun hc1 => ?_)
    · skip
      refine g_aload_n h 0 dL_hangs_405 rfl rfl ?_
      refine g_iload_n h 1 dL_hangs_406 rfl rfl ?_
      refine g_callI h (As := [.int b1]) (fun t => t) (fun r t hG => c_X5_ranked l ω _ b1 hG) iC_0_0 (C := RX5) (T := TX5) (N := 8) rfl 1 rfl gL_hangs_X5_ranked rfl rfl rfl (by decide +kernel) (by decide) (st0 := _) rfl (Nat.le_of_ble_eq_true rfl) dL_hangs_407 (fun r2 M3 => ?_)
      refine g_bipush h (-5) dL_hangs_410 (by decide) ?_
      refine g_icmp_ne h 435 dL_hangs_412 (by decide) (fun hc4 => ?_) (fun hc4 => ?_)
      · skip
        refine g_iload_n h 2 dL_hangs_415 rfl rfl ?_
        refine g_aload_n h 0 dL_hangs_416 rfl rfl ?_
        refine g_iconst h 4 dL_hangs_417 (by decide) ?_
        refine g_callI h (As := [.int 4]) (fun t => t) (fun r t hG => c_X5_count l ω _ 4 hG) iC_0_0 (C := RX5) (T := TX5) (N := 8) rfl 1 rfl gL_hangs_X5_count rfl rfl rfl (by decide +kernel) (by decide) (st0 := _) rfl (Nat.le_of_ble_eq_true rfl) dL_hangs_418 (fun r5 M6 => ?_)
        refine g_icmp_ne h 435 dL_hangs_421 (by decide) (fun hc7 => ?_) (fun hc7 => ?_)
        · skip
          refine g_aload_n h 0 dL_hangs_424 rfl rfl ?_
          refine g_callS h 1 (As := [.ref (th ω 0 0)]) (fun t => t) (CtOk.mono hcx (by omega)) (fun r t hG => c_L_conkers l ω _ hG) 1 rfl gL_hangs_L_conkers rfl rfl rfl (by decide +kernel) (by decide) (st0 := _) rfl (Nat.le_of_ble_eq_true rfl) dL_hangs_425 (fun r8 M9 => ?_)
          refine g_if_eq h 435 dL_hangs_428 (by decide) (fun hc10 => ?_) (fun hc10 => ?_)
          · skip
            refine g_iconst h 0 dL_hangs_435 (by decide) ?_
            exact g_iret hR (by decide) dL_hangs_436
          · skip
            refine g_iconst h 1 dL_hangs_431 (by decide) ?_
            refine g_goto h (tgt := 436) dL_hangs_432 (by decide) ?_
            exact g_iret hR (by decide) dL_hangs_436
        · skip
          refine g_iconst h 0 dL_hangs_435 (by decide) ?_
          exact g_iret hR (by decide) dL_hangs_436
      · skip
        refine g_iconst h 0 dL_hangs_435 (by decide) ?_
        exact g_iret hR (by decide) dL_hangs_436
    · skip
      refine g_aload_n h 0 dL_hangs_110 rfl rfl ?_
      refine g_iload h 3 dL_hangs_111 rfl ?_
      refine g_bipush h 6 dL_hangs_113 (by decide) ?_
      refine g_callI h (As := [.int b4, .int 6]) (fun t => t) (fun r t hG => c_X5_player l ω _ b4 6 hG) iC_0_0 (C := RX5) (T := TX5) (N := 8) rfl 2 rfl gL_hangs_X5_player rfl rfl rfl (by decide +kernel) (by decide) (st0 := _) rfl (Nat.le_of_ble_eq_true rfl) dL_hangs_115 (fun r11 M12 => ?_)
      refine g_istore h (lv' := [(5, .int r11), (0, .ref (th ω 0 0)), (1, .int b1), (3, .int b3), (4, .int b4)]) dL_hangs_118 (by decide) [0, 1, 2, 3, 4] rfl ?_
      refine g_aload_n h 1 dL_hangs_120 rfl rfl ?_
      refine g_iload h 4 dL_hangs_121 rfl ?_
      refine g_iconst h 2 dL_hangs_123 (by decide) ?_
      refine g_callI h (As := [.int b4, .int 2]) (fun t => t) (fun r t hG => c_X5_player l ω _ b4 2 hG) iC_0_0 (C := RX5) (T := TX5) (N := 8) rfl 2 rfl gL_hangs_X5_player rfl rfl rfl (by decide +kernel) (by decide) (st0 := _) rfl (Nat.le_of_ble_eq_true rfl) dL_hangs_124 (fun r13 M14 => ?_)
      refine g_aload_n h 1 dL_hangs_127 rfl rfl ?_
      refine g_iload h 4 dL_hangs_128 rfl ?_
      refine g_iconst h 3 dL_hangs_130 (by decide) ?_
      refine g_callI h (As := [.int b4, .int 3]) (fun t => t) (fun r t hG => c_X5_player l ω _ b4 3 hG) iC_0_0 (C := RX5) (T := TX5) (N := 8) rfl 2 rfl gL_hangs_X5_player rfl rfl rfl (by decide +kernel) (by decide) (st0 := _) rfl (Nat.le_of_ble_eq_true rfl) dL_hangs_131 (fun r15 M16 => ?_)
      refine g_iadd h dL_hangs_134 ?_
      refine g_aload_n h 1 dL_hangs_135 rfl rfl ?_
      refine g_iload h 4 dL_hangs_136 rfl ?_
      refine g_iconst h 4 dL_hangs_138 (by decide) ?_
      refine g_callI h (As := [.int b4, .int 4]) (fun t => t) (fun r t hG => c_X5_player l ω _ b4 4 hG) iC_0_0 (C := RX5) (T := TX5) (N := 8) rfl 2 rfl gL_hangs_X5_player rfl rfl rfl (by decide +kernel) (by decide) (st0 := _) rfl (Nat.le_of_ble_eq_true rfl) dL_hangs_139 (fun r17 M18 => ?_)
      refine g_iadd h dL_hangs_142 ?_
      refine g_istore h (lv' := [(6, .int ((r13 + r15) + r17)), (5, .int r11), (0, .ref (th ω 0 0)), (1, .int b1), (3, .int b3), (4, .int b4)]) dL_hangs_143 (by decide) [0, 1, 2, 3, 4, 5] rfl ?_
      refine g_iconst h 0 dL_hangs_145 (by decide) ?_
      refine g_istore h (lv' := [(7, .int 0), (6, .int ((r13 + r15) + r17)), (5, .int r11), (0, .ref (th ω 0 0)), (1, .int b1), (3, .int b3), (4, .int b4)]) dL_hangs_146 (by decide) [0, 1, 2, 3, 4, 5, 6] rfl ?_
      refine g_iconst h 0 dL_hangs_148 (by decide) ?_
      refine g_istore h (lv' := [(8, .int 0), (7, .int 0), (6, .int ((r13 + r15) + r17)), (5, .int r11), (0, .ref (th ω 0 0)), (1, .int b1), (3, .int b3), (4, .int b4)]) dL_hangs_149 (by decide) [0, 1, 2, 3, 4, 5, 6, 7] rfl ?_
      refine g_sub (lv' := [(0, .ref (th ω 0 0)), (1, .int b1), (3, .int b3), (4, .int b4), (5, .int r11), (6, .int ((r13 + r15) + r17)), (7, .int 0), (8, .int 0)]) [4, 5, 6, 7, 3, 2, 1, 0] rfl ?_
      exact b_L_hangs_151 h hR (CtOk.mono hcx (by omega)) _ ih fu _ _ _ _ _ _ _ _
set_option maxHeartbeats 4000000 in
set_option maxRecDepth 100000 in
theorem b_L_hangs_89 {Γ : Cx} {l : Launch} {ω : Wd} {ct : Nat}  (h : CxOk Γ l ⟨6, 1, 3, 143⟩ 10 ω LC cL_hangs yL_hangs.cls wsL_hangs) (hR : RetI Γ ω LC cL_hangs .boolean) (hcx : CtOk Γ (ct + 0)) (κ16 : Int32 → Int32 → Int32 → Mm → Option (Int32 × Mm)) (hκ16 : ∀ (b1 : Int32) (b2 : Int32) (b3 : Int32) (M : Mm), Gq ct Γ ω LC eI 16 [(0, .ref (th ω 0 0)), (1, .int b1), (2, .int b2), (3, .int b3)] [] M (κ16 b1 b2 b3 M)) : ∀ (b1 : Int32) (b3 : Int32) (b4 : Int32) (M : Mm), Gq ct Γ ω LC eI 89 [(0, .ref (th ω 0 0)), (1, .int b1), (3, .int b3), (4, .int b4)] [] M (m_L_hangs_89 κ16 b1 b3 b4 M) := by
  intro b1 b3 b4 M
  unfold m_L_hangs_89
  refine g_iload h 3 dL_hangs_89 rfl ?_
  refine g_istore_n h rfl (lv' := [(2, .int b4), (0, .ref (th ω 0 0)), (1, .int b1), (3, .int b3), (4, .int b4)]) dL_hangs_91 (by decide) [0, 1, 2, 3, 4] rfl ?_
  refine g_iinc h (b3 + 1) (lv' := [(3, .int (b3 + 1)), (2, .int b4), (0, .ref (th ω 0 0)), (1, .int b1), (4, .int b4)]) dL_hangs_92 3 rfl (congrArg (fun z => b3 + z) (by decide)) (by decide) [0, 1, 2, 3, 4] rfl ?_
  refine g_goto h (tgt := 16) dL_hangs_95 (by decide) ?_
  refine g_sub (lv' := [(0, .ref (th ω 0 0)), (1, .int b1), (2, .int b4), (3, .int (b3 + 1))]) [2, 3, 1, 0] rfl ?_
  exact hκ16 _ _ _ _
set_option maxHeartbeats 4000000 in
set_option maxRecDepth 100000 in
theorem b_L_hangs_16 {Γ : Cx} {l : Launch} {ω : Wd} {ct : Nat}  (h : CxOk Γ l ⟨6, 1, 3, 143⟩ 10 ω LC cL_hangs yL_hangs.cls wsL_hangs) (hR : RetI Γ ω LC cL_hangs .boolean) (hcx : CtOk Γ (ct + 1)) : ∀ (n : Nat) (b1 : Int32) (b2 : Int32) (b3 : Int32) (M : Mm), Gq ct Γ ω LC eI 16 [(0, .ref (th ω 0 0)), (1, .int b1), (2, .int b2), (3, .int b3)] [] M (m_L_hangs_16 n b1 b2 b3 M) := by
  intro n
  induction n with
  | zero =>
    intro b1 b2 b3 M
    rw [m_L_hangs_16.eq_1]
    exact g_none
  | succ n ih =>
    intro b1 b2 b3 M
    rw [m_L_hangs_16.eq_2]
    refine g_iload_n h 3 dL_hangs_16 rfl rfl ?_
    refine g_iload_n h 1 dL_hangs_17 rfl rfl ?_
    refine g_icmp_ge h 98 dL_hangs_18 (by decide) (fun hc1 => ?_) (fun hc1 => ?_)
    · skip
      refine g_iconst h 0 dL_hangs_98 (by decide) ?_
      refine g_istore_n h rfl (lv' := [(3, .int 0), (0, .ref (th ω 0 0)), (1, .int b1), (2, .int b2)]) dL_hangs_99 (by decide) [0, 1, 2, 3] rfl ?_
      refine g_iconst h 0 dL_hangs_100 (by decide) ?_
      refine g_istore h (lv' := [(4, .int 0), (3, .int 0), (0, .ref (th ω 0 0)), (1, .int b1), (2, .int b2)]) dL_hangs_101 (by decide) [0, 1, 2, 3, 4] rfl ?_
      refine g_sub (lv' := [(0, .ref (th ω 0 0)), (1, .int b1), (3, .int 0), (4, .int 0)]) [2, 3, 1, 0] rfl ?_
      exact b_L_hangs_103 h hR (CtOk.mono hcx (by omega)) fu _ _ _ _
    · skip
      refine g_aload_n h 0 dL_hangs_21 rfl rfl ?_
      refine g_iload_n h 3 dL_hangs_22 rfl rfl ?_
      refine g_callI h (As := [.int b3]) (fun t => t) (fun r t hG => c_X5_ranked l ω _ b3 hG) iC_0_0 (C := RX5) (T := TX5) (N := 8) rfl 1 rfl gL_hangs_X5_ranked rfl rfl rfl (by decide +kernel) (by decide) (st0 := _) rfl (Nat.le_of_ble_eq_true rfl) dL_hangs_23 (fun r2 M3 => ?_)
      refine g_istore h (lv' := [(4, .int r2), (0, .ref (th ω 0 0)), (1, .int b1), (2, .int b2), (3, .int b3)]) dL_hangs_26 (by decide) [0, 1, 2, 3, 4] rfl ?_
      refine g_iload h 0 dL_hangs_28 rfl ?_
      refine g_if_lt h 87 dL_hangs_30 (by decide) (fun hc4 => ?_) (fun hc4 => ?_)
      · skip
        refine g_iconst h 0 dL_hangs_87 (by decide) ?_
        exact g_iret hR (by decide) dL_hangs_88
      · skip
        refine g_aload_n h 1 dL_hangs_33 rfl rfl ?_
        refine g_iload h 0 dL_hangs_34 rfl ?_
        refine g_bipush h 6 dL_hangs_36 (by decide) ?_
        refine g_callI h (As := [.int r2, .int 6]) (fun t => t) (fun r t hG => c_X5_conker l ω _ r2 6 hG) iC_0_0 (C := RX5) (T := TX5) (N := 8) rfl 2 rfl gL_hangs_X5_conker rfl rfl rfl (by decide +kernel) (by decide) (st0 := _) rfl (Nat.le_of_ble_eq_true rfl) dL_hangs_38 (fun r5 M6 => ?_)
        refine g_iconst h 2 dL_hangs_41 (by decide) ?_
        refine g_icmp_eq h 87 dL_hangs_42 (by decide) (fun hc7 => ?_) (fun hc7 => ?_)
        · skip
          refine g_iconst h 0 dL_hangs_87 (by decide) ?_
          exact g_iret hR (by decide) dL_hangs_88
        · skip
          refine g_iload_n h 3 dL_hangs_45 rfl rfl ?_
          refine g_if_lt h 89 dL_hangs_46 (by decide) (fun hc8 => ?_) (fun hc8 => ?_)
          · skip
            refine g_sub (lv' := [(0, .ref (th ω 0 0)), (1, .int b1), (3, .int b3), (4, .int r2)]) [1, 2, 4, 0] rfl ?_
            exact b_L_hangs_89 h hR (CtOk.mono hcx (by omega)) _ ih _ _ _ _
          · skip
            refine g_aload_n h 1 dL_hangs_49 rfl rfl ?_
            refine g_iload h 0 dL_hangs_50 rfl ?_
            refine g_iconst h 4 dL_hangs_52 (by decide) ?_
            refine g_callI h (As := [.int r2, .int 4]) (fun t => t) (fun r t hG => c_X5_conker l ω _ r2 4 hG) iC_0_0 (C := RX5) (T := TX5) (N := 8) rfl 2 rfl gL_hangs_X5_conker rfl rfl rfl (by decide +kernel) (by decide) (st0 := _) rfl (Nat.le_of_ble_eq_true rfl) dL_hangs_53 (fun r9 M10 => ?_)
            refine g_aload_n h 1 dL_hangs_56 rfl rfl ?_
            refine g_iload_n h 3 dL_hangs_57 rfl rfl ?_
            refine g_iconst h 4 dL_hangs_58 (by decide) ?_
            refine g_callI h (As := [.int b2, .int 4]) (fun t => t) (fun r t hG => c_X5_conker l ω _ b2 4 hG) iC_0_0 (C := RX5) (T := TX5) (N := 8) rfl 2 rfl gL_hangs_X5_conker rfl rfl rfl (by decide +kernel) (by decide) (st0 := _) rfl (Nat.le_of_ble_eq_true rfl) dL_hangs_59 (fun r11 M12 => ?_)
            refine g_icmp_gt h 87 dL_hangs_62 (by decide) (fun hc13 => ?_) (fun hc13 => ?_)
            · skip
              refine g_iconst h 0 dL_hangs_87 (by decide) ?_
              exact g_iret hR (by decide) dL_hangs_88
            · skip
              refine g_aload_n h 1 dL_hangs_65 rfl rfl ?_
              refine g_iload h 0 dL_hangs_66 rfl ?_
              refine g_iconst h 4 dL_hangs_68 (by decide) ?_
              refine g_callI h (As := [.int r2, .int 4]) (fun t => t) (fun r t hG => c_X5_conker l ω _ r2 4 hG) iC_0_0 (C := RX5) (T := TX5) (N := 8) rfl 2 rfl gL_hangs_X5_conker rfl rfl rfl (by decide +kernel) (by decide) (st0 := _) rfl (Nat.le_of_ble_eq_true rfl) dL_hangs_69 (fun r14 M15 => ?_)
              refine g_aload_n h 1 dL_hangs_72 rfl rfl ?_
              refine g_iload_n h 3 dL_hangs_73 rfl rfl ?_
              refine g_iconst h 4 dL_hangs_74 (by decide) ?_
              refine g_callI h (As := [.int b2, .int 4]) (fun t => t) (fun r t hG => c_X5_conker l ω _ b2 4 hG) iC_0_0 (C := RX5) (T := TX5) (N := 8) rfl 2 rfl gL_hangs_X5_conker rfl rfl rfl (by decide +kernel) (by decide) (st0 := _) rfl (Nat.le_of_ble_eq_true rfl) dL_hangs_75 (fun r16 M17 => ?_)
              refine g_icmp_ne h 89 dL_hangs_78 (by decide) (fun hc18 => ?_) (fun hc18 => ?_)
              · skip
                refine g_iload h 0 dL_hangs_81 rfl ?_
                refine g_iload_n h 3 dL_hangs_83 rfl rfl ?_
                refine g_icmp_ge h 89 dL_hangs_84 (by decide) (fun hc19 => ?_) (fun hc19 => ?_)
                · skip
                  refine g_sub (lv' := [(0, .ref (th ω 0 0)), (1, .int b1), (3, .int b3), (4, .int r2)]) [1, 2, 4, 0] rfl ?_
                  exact b_L_hangs_89 h hR (CtOk.mono hcx (by omega)) _ ih _ _ _ _
                · skip
                  refine g_iconst h 0 dL_hangs_87 (by decide) ?_
                  exact g_iret hR (by decide) dL_hangs_88
              · skip
                refine g_sub (lv' := [(0, .ref (th ω 0 0)), (1, .int b1), (3, .int b3), (4, .int r2)]) [1, 2, 4, 0] rfl ?_
                exact b_L_hangs_89 h hR (CtOk.mono hcx (by omega)) _ ih _ _ _ _
set_option maxHeartbeats 4000000 in
set_option maxRecDepth 100000 in
theorem c_L_hangs (l : Launch) (ω : Wd)  (M : Mm) {r : Int32} {M' : Mm} (hm : m_L_hangs M = some (r, M')) : MI l yL_hangs wsL_hangs ⟨6, 1, 3, 143⟩ ω LC [.ref (th ω 0 0)] M r M' := by
  refine met_i (cc := cL_hangs) (maxL := 10) (ty := .boolean) (by decide +kernel) rfl (Nat.le_of_ble_eq_true rfl) LC_nd ?_
  intro Γ h hR ht
  suffices K : Gq 0 Γ ω LC eI 0 [(0, .ref (th ω 0 0))] [] M (m_L_hangs M) from K (r, M') hm ht (c0 Γ)
  have hcx : CtOk Γ (0 + 1) := ctRm h (by decide) (by decide)
  unfold m_L_hangs
  refine g_aload_n h 0 dL_hangs_0 rfl rfl ?_
  refine g_iconst h 1 dL_hangs_1 (by decide) ?_
  refine g_callI h (As := [.int 1]) (fun t => t) (fun r t hG => c_X5_count l ω _ 1 hG) iC_0_0 (C := RX5) (T := TX5) (N := 8) rfl 1 rfl gL_hangs_X5_count rfl rfl rfl (by decide +kernel) (by decide) (st0 := _) rfl (Nat.le_of_ble_eq_true rfl) dL_hangs_2 (fun r1 M2 => ?_)
  refine g_aload_n h 0 dL_hangs_5 rfl rfl ?_
  refine g_iconst h 2 dL_hangs_6 (by decide) ?_
  refine g_callI h (As := [.int 2]) (fun t => t) (fun r t hG => c_X5_count l ω _ 2 hG) iC_0_0 (C := RX5) (T := TX5) (N := 8) rfl 1 rfl gL_hangs_X5_count rfl rfl rfl (by decide +kernel) (by decide) (st0 := _) rfl (Nat.le_of_ble_eq_true rfl) dL_hangs_7 (fun r3 M4 => ?_)
  refine g_iadd h dL_hangs_10 ?_
  refine g_istore_n h rfl (lv' := [(1, .int (r1 + r3)), (0, .ref (th ω 0 0))]) dL_hangs_11 (by decide) [0, 1] rfl ?_
  refine g_iconst h (-1) dL_hangs_12 (by decide) ?_
  refine g_istore_n h rfl (lv' := [(2, .int (-1)), (1, .int (r1 + r3)), (0, .ref (th ω 0 0))]) dL_hangs_13 (by decide) [0, 1, 2] rfl ?_
  refine g_iconst h 0 dL_hangs_14 (by decide) ?_
  refine g_istore_n h rfl (lv' := [(3, .int 0), (2, .int (-1)), (1, .int (r1 + r3)), (0, .ref (th ω 0 0))]) dL_hangs_15 (by decide) [0, 1, 2, 3] rfl ?_
  refine g_sub (lv' := [(0, .ref (th ω 0 0)), (1, .int (r1 + r3)), (2, .int (-1)), (3, .int 0)]) [3, 2, 1, 0] rfl ?_
  exact b_L_hangs_16 h hR (CtOk.mono hcx (by omega)) fu _ _ _ _
set_option maxHeartbeats 4000000 in
set_option maxRecDepth 100000 in
theorem b_L_rounds_105 {Γ : Cx} {l : Launch} {ω : Wd} {ct : Nat}  (h : CxOk Γ l ⟨7, 1, 3, 172⟩ 8 ω LC cL_rounds yL_rounds.cls wsL_rounds) (hR : RetI Γ ω LC cL_rounds .boolean) (hcx : CtOk Γ (ct + 0)) : ∀ (j3 : Int64) (s0 : Int32) (M : Mm), Gq ct Γ ω LC eI 105 [(0, .ref (th ω 0 0)), (3, .long j3)] [.int s0] M (m_L_rounds_105 j3 s0 M) := by
  intro j3 s0 M
  unfold m_L_rounds_105
  refine g_istore h (lv' := [(7, .int s0), (0, .ref (th ω 0 0)), (3, .long j3)]) dL_rounds_105 (by decide) [0, 1, 2] rfl ?_
  refine g_iload h 0 dL_rounds_107 rfl ?_
  refine g_if_eq h 132 dL_rounds_109 (by decide) (fun hc1 => ?_) (fun hc1 => ?_)
  · skip
    refine g_iconst h 0 dL_rounds_132 (by decide) ?_
    exact g_iret hR (by decide) dL_rounds_133
  · skip
    refine g_aload_n h 1 dL_rounds_112 rfl rfl ?_
    refine g_callI h (As := []) (fun t => t) (fun r t hG => c_X5_undo l ω _ hG) iC_0_0 (C := RX5) (T := TX5) (N := 8) rfl 0 rfl gL_rounds_X5_undo rfl rfl rfl (by decide +kernel) (by decide) (st0 := _) rfl (Nat.le_of_ble_eq_true rfl) dL_rounds_113 (fun r2 M3 => ?_)
    refine g_if_lt h 132 dL_rounds_116 (by decide) (fun hc4 => ?_) (fun hc4 => ?_)
    · skip
      refine g_iconst h 0 dL_rounds_132 (by decide) ?_
      exact g_iret hR (by decide) dL_rounds_133
    · skip
      refine g_aload_n h 1 dL_rounds_119 rfl rfl ?_
      refine g_callJ h (As := [.ref (th ω 0 0)]) (fun r t hG => c_L_print l ω _ hG) 1 rfl gL_rounds_L_print rfl rfl rfl (by decide +kernel) (by decide) (st0 := _) rfl (Nat.le_of_ble_eq_true rfl) dL_rounds_120 (fun r5 M6 => ?_)
      refine g_lload_n h 2 dL_rounds_123 rfl rfl ?_
      refine g_lcmp h dL_rounds_124 ?_
      refine g_if_ne h 132 dL_rounds_125 (by decide) (fun hc7 => ?_) (fun hc7 => ?_)
      · skip
        refine g_iconst h 1 dL_rounds_128 (by decide) ?_
        refine g_goto h (tgt := 133) dL_rounds_129 (by decide) ?_
        exact g_iret hR (by decide) dL_rounds_133
      · skip
        refine g_iconst h 0 dL_rounds_132 (by decide) ?_
        exact g_iret hR (by decide) dL_rounds_133
set_option maxHeartbeats 4000000 in
set_option maxRecDepth 100000 in
theorem b_L_rounds_104 {Γ : Cx} {l : Launch} {ω : Wd} {ct : Nat}  (h : CxOk Γ l ⟨7, 1, 3, 172⟩ 8 ω LC cL_rounds yL_rounds.cls wsL_rounds) (hR : RetI Γ ω LC cL_rounds .boolean) (hcx : CtOk Γ (ct + 0)) : ∀ (j3 : Int64) (M : Mm), Gq ct Γ ω LC eI 104 [(0, .ref (th ω 0 0)), (3, .long j3)] [] M (m_L_rounds_104 j3 M) := by
  intro j3 M
  unfold m_L_rounds_104
  refine g_iconst h 0 dL_rounds_104 (by decide) ?_
  exact b_L_rounds_105 h hR (CtOk.mono hcx (by omega)) _ _ _
set_option maxHeartbeats 4000000 in
set_option maxRecDepth 100000 in
theorem b_L_rounds_26 {Γ : Cx} {l : Launch} {ω : Wd} {ct : Nat}  (h : CxOk Γ l ⟨7, 1, 3, 172⟩ 8 ω LC cL_rounds yL_rounds.cls wsL_rounds) (hR : RetI Γ ω LC cL_rounds .boolean) (hcx : CtOk Γ (ct + 0)) (κ4 : Int32 → Int32 → Int32 → Mm → Option (Int32 × Mm)) (hκ4 : ∀ (b1 : Int32) (b2 : Int32) (b3 : Int32) (M : Mm), Gq ct Γ ω LC eI 4 [(0, .ref (th ω 0 0)), (1, .int b1), (2, .int b2), (3, .int b3)] [] M (κ4 b1 b2 b3 M)) : ∀ (b1 : Int32) (b3 : Int32) (s0 : Int32) (s1 : Int32) (M : Mm), Gq ct Γ ω LC eI 26 [(0, .ref (th ω 0 0)), (1, .int b1), (3, .int b3)] [.int s1, .int s0] M (m_L_rounds_26 κ4 b1 b3 s0 s1 M) := by
  intro b1 b3 s0 s1 M
  unfold m_L_rounds_26
  refine g_iadd h dL_rounds_26 ?_
  refine g_istore_n h rfl (lv' := [(2, .int (s0 + s1)), (0, .ref (th ω 0 0)), (1, .int b1), (3, .int b3)]) dL_rounds_27 (by decide) [0, 1, 2, 3] rfl ?_
  refine g_iinc h (b3 + 1) (lv' := [(3, .int (b3 + 1)), (2, .int (s0 + s1)), (0, .ref (th ω 0 0)), (1, .int b1)]) dL_rounds_28 3 rfl (congrArg (fun z => b3 + z) (by decide)) (by decide) [0, 1, 2, 3] rfl ?_
  refine g_goto h (tgt := 4) dL_rounds_31 (by decide) ?_
  refine g_sub (lv' := [(0, .ref (th ω 0 0)), (1, .int b1), (2, .int (s0 + s1)), (3, .int (b3 + 1))]) [2, 3, 1, 0] rfl ?_
  exact hκ4 _ _ _ _
set_option maxHeartbeats 4000000 in
set_option maxRecDepth 100000 in
theorem b_L_rounds_4 {Γ : Cx} {l : Launch} {ω : Wd} {ct : Nat}  (h : CxOk Γ l ⟨7, 1, 3, 172⟩ 8 ω LC cL_rounds yL_rounds.cls wsL_rounds) (hR : RetI Γ ω LC cL_rounds .boolean) (hcx : CtOk Γ (ct + 1)) : ∀ (n : Nat) (b1 : Int32) (b2 : Int32) (b3 : Int32) (M : Mm), Gq ct Γ ω LC eI 4 [(0, .ref (th ω 0 0)), (1, .int b1), (2, .int b2), (3, .int b3)] [] M (m_L_rounds_4 n b1 b2 b3 M) := by
  intro n
  induction n with
  | zero =>
    intro b1 b2 b3 M
    rw [m_L_rounds_4.eq_1]
    exact g_none
  | succ n ih =>
    intro b1 b2 b3 M
    rw [m_L_rounds_4.eq_2]
    refine g_iload_n h 3 dL_rounds_4 rfl rfl ?_
    refine g_bipush h 6 dL_rounds_5 (by decide) ?_
    refine g_icmp_ge h 34 dL_rounds_7 (by decide) (fun hc1 => ?_) (fun hc1 => ?_)
    · skip
      refine g_aload_n h 0 dL_rounds_34 rfl rfl ?_
      refine g_callJ h (As := [.ref (th ω 0 0)]) (fun r t hG => c_L_print l ω _ hG) 1 rfl gL_rounds_L_print rfl rfl rfl (by decide +kernel) (by decide) (st0 := _) rfl (Nat.le_of_ble_eq_true rfl) dL_rounds_35 (fun r2 M3 => ?_)
      refine g_lstore_n h rfl (lv' := [(3, .long r2), (0, .ref (th ω 0 0)), (1, .int b1), (2, .int b2)]) dL_rounds_38 (by decide) [0, 1, 2, 3] rfl ?_
      refine g_aload_n h 1 dL_rounds_39 rfl rfl ?_
      refine g_bipush h 6 dL_rounds_40 (by decide) ?_
      refine g_callI h (As := [.int 6]) (fun t => t) (fun r t hG => c_X5_count l ω _ 6 hG) iC_0_0 (C := RX5) (T := TX5) (N := 8) rfl 1 rfl gL_rounds_X5_count rfl rfl rfl (by decide +kernel) (by decide) (st0 := _) rfl (Nat.le_of_ble_eq_true rfl) dL_rounds_42 (fun r4 M5 => ?_)
      refine g_istore h (lv' := [(5, .int r4), (3, .long r2), (0, .ref (th ω 0 0)), (1, .int b1), (2, .int b2)]) dL_rounds_45 (by decide) [0, 1, 2, 3, 4] rfl ?_
      refine g_aload_n h 2 dL_rounds_47 rfl rfl ?_
      refine g_iload_n h 3 dL_rounds_48 rfl rfl ?_
      refine g_callI h (As := [.int b1]) (fun t => t) (fun r t hG => c_X5_round l ω _ b1 hG) iC_0_0 (C := RX5) (T := TX5) (N := 8) rfl 1 rfl gL_rounds_X5_round rfl rfl rfl (by decide +kernel) (by decide) (st0 := _) rfl (Nat.le_of_ble_eq_true rfl) dL_rounds_49 (fun r6 M7 => ?_)
      refine g_istore h (lv' := [(6, .int r6), (5, .int r4), (3, .long r2), (0, .ref (th ω 0 0)), (1, .int b1), (2, .int b2)]) dL_rounds_52 (by decide) [0, 1, 2, 3, 4, 5] rfl ?_
      refine g_iload h 0 dL_rounds_54 rfl ?_
      refine g_iload_n h 5 dL_rounds_56 rfl rfl ?_
      refine g_iconst h 2 dL_rounds_57 (by decide) ?_
      refine g_idiv h dL_rounds_58 ?_
      refine g_icmp_ne h 104 dL_rounds_59 (by decide) (fun hc8 => ?_) (fun hc8 => ?_)
      · skip
        refine g_aload_n h 3 dL_rounds_62 rfl rfl ?_
        refine g_bipush h 6 dL_rounds_63 (by decide) ?_
        refine g_callI h (As := [.int 6]) (fun t => t) (fun r t hG => c_X5_count l ω _ 6 hG) iC_0_0 (C := RX5) (T := TX5) (N := 8) rfl 1 rfl gL_rounds_X5_count rfl rfl rfl (by decide +kernel) (by decide) (st0 := _) rfl (Nat.le_of_ble_eq_true rfl) dL_rounds_65 (fun r9 M10 => ?_)
        refine g_iload h 1 dL_rounds_68 rfl ?_
        refine g_iload h 0 dL_rounds_70 rfl ?_
        refine g_iadd h dL_rounds_72 ?_
        refine g_icmp_lt h 104 dL_rounds_73 (by decide) (fun hc11 => ?_) (fun hc11 => ?_)
        · skip
          refine g_sub (lv' := [(0, .ref (th ω 0 0)), (3, .long r2)]) [3, 2] rfl ?_
          exact b_L_rounds_104 h hR (CtOk.mono hcx (by omega)) _ _
        · skip
          refine g_aload_n h 3 dL_rounds_76 rfl rfl ?_
          refine g_bipush h 6 dL_rounds_77 (by decide) ?_
          refine g_callI h (As := [.int 6]) (fun t => t) (fun r t hG => c_X5_count l ω _ 6 hG) iC_0_0 (C := RX5) (T := TX5) (N := 8) rfl 1 rfl gL_rounds_X5_count rfl rfl rfl (by decide +kernel) (by decide) (st0 := _) rfl (Nat.le_of_ble_eq_true rfl) dL_rounds_79 (fun r12 M13 => ?_)
          refine g_iload h 1 dL_rounds_82 rfl ?_
          refine g_bipush h 20 dL_rounds_84 (by decide) ?_
          refine g_iload h 0 dL_rounds_86 rfl ?_
          refine g_imul h dL_rounds_88 ?_
          refine g_iadd h dL_rounds_89 ?_
          refine g_icmp_gt h 104 dL_rounds_90 (by decide) (fun hc14 => ?_) (fun hc14 => ?_)
          · skip
            refine g_sub (lv' := [(0, .ref (th ω 0 0)), (3, .long r2)]) [3, 2] rfl ?_
            exact b_L_rounds_104 h hR (CtOk.mono hcx (by omega)) _ _
          · skip
            refine g_aload_n h 3 dL_rounds_93 rfl rfl ?_
            refine g_callS h 1 (As := [.ref (th ω 0 0)]) (fun t => t) (CtOk.mono hcx (by omega)) (fun r t hG => c_L_hangs l ω _ hG) 1 rfl gL_rounds_L_hangs rfl rfl rfl (by decide +kernel) (by decide) (st0 := _) rfl (Nat.le_of_ble_eq_true rfl) dL_rounds_94 (fun r15 M16 => ?_)
            refine g_if_eq h 104 dL_rounds_97 (by decide) (fun hc17 => ?_) (fun hc17 => ?_)
            · skip
              refine g_sub (lv' := [(0, .ref (th ω 0 0)), (3, .long r2)]) [3, 2] rfl ?_
              exact b_L_rounds_104 h hR (CtOk.mono hcx (by omega)) _ _
            · skip
              refine g_iconst h 1 dL_rounds_100 (by decide) ?_
              refine g_goto h (tgt := 105) dL_rounds_101 (by decide) ?_
              refine g_sub (lv' := [(0, .ref (th ω 0 0)), (3, .long r2)]) [3, 2] rfl ?_
              exact b_L_rounds_105 h hR (CtOk.mono hcx (by omega)) _ _ _
      · skip
        refine g_sub (lv' := [(0, .ref (th ω 0 0)), (3, .long r2)]) [3, 2] rfl ?_
        exact b_L_rounds_104 h hR (CtOk.mono hcx (by omega)) _ _
    · skip
      refine g_iload_n h 2 dL_rounds_10 rfl rfl ?_
      refine g_aload_n h 0 dL_rounds_11 rfl rfl ?_
      refine g_iload_n h 3 dL_rounds_12 rfl rfl ?_
      refine g_bipush h 6 dL_rounds_13 (by decide) ?_
      refine g_callI h (As := [.int b3, .int 6]) (fun t => t) (fun r t hG => c_X5_player l ω _ b3 6 hG) iC_0_0 (C := RX5) (T := TX5) (N := 8) rfl 2 rfl gL_rounds_X5_player rfl rfl rfl (by decide +kernel) (by decide) (st0 := _) rfl (Nat.le_of_ble_eq_true rfl) dL_rounds_15 (fun r18 M19 => ?_)
      refine g_if_lt h 25 dL_rounds_18 (by decide) (fun hc20 => ?_) (fun hc20 => ?_)
      · skip
        refine g_iconst h 0 dL_rounds_25 (by decide) ?_
        refine g_sub (lv' := [(0, .ref (th ω 0 0)), (1, .int b1), (3, .int b3)]) [0, 1, 3] rfl ?_
        exact b_L_rounds_26 h hR (CtOk.mono hcx (by omega)) _ ih _ _ _ _ _
      · skip
        refine g_iconst h 1 dL_rounds_21 (by decide) ?_
        refine g_goto h (tgt := 26) dL_rounds_22 (by decide) ?_
        refine g_sub (lv' := [(0, .ref (th ω 0 0)), (1, .int b1), (3, .int b3)]) [0, 1, 3] rfl ?_
        exact b_L_rounds_26 h hR (CtOk.mono hcx (by omega)) _ ih _ _ _ _ _
set_option maxHeartbeats 4000000 in
set_option maxRecDepth 100000 in
theorem c_L_rounds (l : Launch) (ω : Wd)  (M : Mm) (a1 : Int32) {r : Int32} {M' : Mm} (hm : m_L_rounds a1 M = some (r, M')) : MI l yL_rounds wsL_rounds ⟨7, 1, 3, 172⟩ ω LC [.ref (th ω 0 0), .int a1] M r M' := by
  refine met_i (cc := cL_rounds) (maxL := 8) (ty := .boolean) (by decide +kernel) rfl (Nat.le_of_ble_eq_true rfl) LC_nd ?_
  intro Γ h hR ht
  suffices K : Gq 0 Γ ω LC eI 0 [(0, .ref (th ω 0 0)), (1, .int a1)] [] M (m_L_rounds a1 M) from K (r, M') hm ht (c0 Γ)
  have hcx : CtOk Γ (0 + 1) := ctRm h (by decide) (by decide)
  unfold m_L_rounds
  refine g_iconst h 0 dL_rounds_0 (by decide) ?_
  refine g_istore_n h rfl (lv' := [(2, .int 0), (0, .ref (th ω 0 0)), (1, .int a1)]) dL_rounds_1 (by decide) [0, 1, 2] rfl ?_
  refine g_iconst h 0 dL_rounds_2 (by decide) ?_
  refine g_istore_n h rfl (lv' := [(3, .int 0), (2, .int 0), (0, .ref (th ω 0 0)), (1, .int a1)]) dL_rounds_3 (by decide) [0, 1, 2, 3] rfl ?_
  refine g_sub (lv' := [(0, .ref (th ω 0 0)), (1, .int a1), (2, .int 0), (3, .int 0)]) [2, 3, 1, 0] rfl ?_
  exact b_L_rounds_4 h hR (CtOk.mono hcx (by omega)) fu _ _ _ _
