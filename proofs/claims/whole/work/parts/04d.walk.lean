/-! WALKS (written by wip/whole/gen.py): X5_clearText, X5_conker, X5_count, X5_isPlayer, X5_doubt, X5_fault, X5_give, X5_tryHit, X5_ifStruck, X5_leastSwing, X5_line, X5_mend, X5_player, X5_ranked, X5_restore, X5_round, X5_run, X5_save -/
theorem n_X5_clearText_3 : ∀ w ∈ wsX30, w ∈ wsX5_clearText := by decide +kernel
theorem n_X5_clearText_5 : ∀ w ∈ wsX50, w ∈ wsX5_clearText := by decide +kernel
set_option maxHeartbeats 4000000 in
set_option maxRecDepth 100000 in
theorem c_X5_clearText (l : Launch) (ω : Wd)  (M : Mm) {r : Int32} {M' : Mm} (hm : m_X5_clearText M = some (r, M')) : MI l yX5_clearText wsX5_clearText ⟨0, 0, 0, 0⟩ ω LC [.ref (th ω 0 0)] M r M' := by
  refine met_i (cc := cX5_clearText) (maxL := 2) (ty := .int) (by decide +kernel) rfl (Nat.le_of_ble_eq_true rfl) LC_nd ?_
  intro Γ h hR ht
  suffices K : Gq Γ ω LC eI 0 [(0, .ref (th ω 0 0))] [] M (m_X5_clearText M) from K (r, M') hm ht
  unfold m_X5_clearText
  refine g_aload_n h 0 dX5_clearText_0 rfl rfl ?_
  refine g_getR h (index := 32) (j := 4) iC_0_0 (C := RX5) (T := TX5) (N := 8) rfl n_X5_clearText_5 (by decide) rfl (by decide +kernel) dX5_clearText_1 ?_
  refine g_getI h (v := M 9 0 1) rfl (index := 138) (j := 1) iC_9_0 (C := RX3) (T := TX3) (N := 7) rfl n_X5_clearText_3 (by decide) rfl (by decide +kernel) dX5_clearText_4 ?_
  refine g_ni (fun v1 => ?_)
  refine g_istore_n h rfl (lv' := [(1, .int v1), (0, .ref (th ω 0 0))]) dX5_clearText_7 (by decide) [0, 1] rfl ?_
  refine g_aload_n h 1 dX5_clearText_8 rfl rfl ?_
  refine g_getR h (index := 32) (j := 4) iC_0_0 (C := RX5) (T := TX5) (N := 8) rfl n_X5_clearText_5 (by decide) rfl (by decide +kernel) dX5_clearText_9 ?_
  refine g_iconst h 0 dX5_clearText_12 (by decide) ?_
  refine g_putI h (x' := wM M 9 0 1 0) rfl (index := 138) (j := 1) iC_9_0 (C := RX3) (T := TX3) (N := 7) rfl n_X5_clearText_3 tyX3_ok nmX3 (by decide) rfl (by decide +kernel) rfl (ty := .int) (by decide +kernel) rfl rfl dX5_clearText_13 ?_
  refine g_nm (fun M2 => ?_)
  refine g_iload_n h 0 dX5_clearText_16 rfl rfl ?_
  exact g_iret hR rfl dX5_clearText_17
theorem n_X5_conker_4 : ∀ w ∈ wsX40, w ∈ wsX5_conker := by decide +kernel
theorem n_X5_conker_5 : ∀ w ∈ wsX50, w ∈ wsX5_conker := by decide +kernel
set_option maxHeartbeats 4000000 in
set_option maxRecDepth 100000 in
theorem c_X5_conker (l : Launch) (ω : Wd)  (M : Mm) (a1 : Int32) (a2 : Int32) {r : Int32} {M' : Mm} (hm : m_X5_conker a1 a2 M = some (r, M')) : MI l yX5_conker wsX5_conker ⟨2, 0, 0, 43⟩ ω LC [.ref (th ω 0 0), .int a1, .int a2] M r M' := by
  refine met_i (cc := cX5_conker) (maxL := 3) (ty := .int) (by decide +kernel) rfl (Nat.le_of_ble_eq_true rfl) LC_nd ?_
  intro Γ h hR ht
  suffices K : Gq Γ ω LC eI 0 [(0, .ref (th ω 0 0)), (1, .int a1), (2, .int a2)] [] M (m_X5_conker a1 a2 M) from K (r, M') hm ht
  unfold m_X5_conker
  refine g_aload_n h 0 dX5_conker_0 rfl rfl ?_
  refine g_getR h (index := 10) (j := 0) iC_0_0 (C := RX5) (T := TX5) (N := 8) rfl n_X5_conker_5 (by decide) rfl (by decide +kernel) dX5_conker_1 ?_
  refine g_iload_n h 1 dX5_conker_4 rfl rfl ?_
  refine g_callI h (As := [.int a1]) (fun t => uM M 1 t) (fun r t hG => MI_self (c_X4_hasConker l ω 1 kS1 M _ a1 hG)) (inS kS1 0 (by decide)) (C := RX4) (T := TX4) (N := 13) rfl 1 rfl gX5_conker_X4_hasConker rfl rfl rfl (by decide +kernel) (by decide) (st0 := _) rfl (Nat.le_of_ble_eq_true rfl) dX5_conker_5 (fun r1 M2 => ?_)
  refine g_nm (fun M3 => ?_)
  refine g_if_ne h 13 dX5_conker_8 (by decide) (fun hc4 => ?_) (fun hc4 => ?_)
  · skip
    refine g_iconst h (-1) dX5_conker_11 (by decide) ?_
    exact g_iret hR rfl dX5_conker_12
  · skip
    refine g_iload_n h 2 dX5_conker_13 rfl rfl ?_
    refine g_if (fun hc5 => ?_) (fun hc5 => ?_)
    · refine g_tsIn h 0 (off := 50) 64 hc5 dX5_conker_14 (by decide) (by decide) rfl (by decide) ?_
      refine g_aload_n h 0 dX5_conker_64 rfl rfl ?_
      refine g_getR h (index := 10) (j := 0) iC_0_0 (C := RX5) (T := TX5) (N := 8) rfl n_X5_conker_5 (by decide) rfl (by decide +kernel) dX5_conker_65 ?_
      refine g_getR h (index := 107) (j := 2) (inS kS1 0 (by decide)) (C := RX4) (T := TX4) (N := 13) rfl n_X5_conker_4 (by decide) rfl (by decide +kernel) dX5_conker_68 ?_
      refine g_iload_n h 1 dX5_conker_71 rfl rfl ?_
      refine g_iald h (v := M3 1 3 a1.toNatClampNeg) rfl (inS kS1 3 (by decide)) dX5_conker_72 ?_
      refine g_ni (fun v6 => ?_)
      exact g_iret hR rfl dX5_conker_73
    refine g_if (fun hc7 => ?_) (fun hc7 => ?_)
    · refine g_tsIn h 1 (off := 60) 74 hc7 dX5_conker_14 (by decide) (by decide) rfl (by decide) ?_
      refine g_aload_n h 0 dX5_conker_74 rfl rfl ?_
      refine g_getR h (index := 10) (j := 0) iC_0_0 (C := RX5) (T := TX5) (N := 8) rfl n_X5_conker_5 (by decide) rfl (by decide +kernel) dX5_conker_75 ?_
      refine g_getR h (index := 170) (j := 3) (inS kS1 0 (by decide)) (C := RX4) (T := TX4) (N := 13) rfl n_X5_conker_4 (by decide) rfl (by decide +kernel) dX5_conker_78 ?_
      refine g_iload_n h 1 dX5_conker_81 rfl rfl ?_
      refine g_iald h (v := M3 1 4 a1.toNatClampNeg) rfl (inS kS1 4 (by decide)) dX5_conker_82 ?_
      refine g_ni (fun v8 => ?_)
      exact g_iret hR rfl dX5_conker_83
    refine g_if (fun hc9 => ?_) (fun hc9 => ?_)
    · refine g_tsIn h 2 (off := 70) 84 hc9 dX5_conker_14 (by decide) (by decide) rfl (by decide) ?_
      refine g_aload_n h 0 dX5_conker_84 rfl rfl ?_
      refine g_getR h (index := 10) (j := 0) iC_0_0 (C := RX5) (T := TX5) (N := 8) rfl n_X5_conker_5 (by decide) rfl (by decide +kernel) dX5_conker_85 ?_
      refine g_getR h (index := 173) (j := 4) (inS kS1 0 (by decide)) (C := RX4) (T := TX4) (N := 13) rfl n_X5_conker_4 (by decide) rfl (by decide +kernel) dX5_conker_88 ?_
      refine g_iload_n h 1 dX5_conker_91 rfl rfl ?_
      refine g_iald h (v := M3 1 5 a1.toNatClampNeg) rfl (inS kS1 5 (by decide)) dX5_conker_92 ?_
      refine g_ni (fun v10 => ?_)
      exact g_iret hR rfl dX5_conker_93
    refine g_if (fun hc11 => ?_) (fun hc11 => ?_)
    · refine g_tsIn h 3 (off := 80) 94 hc11 dX5_conker_14 (by decide) (by decide) rfl (by decide) ?_
      refine g_aload_n h 0 dX5_conker_94 rfl rfl ?_
      refine g_getR h (index := 10) (j := 0) iC_0_0 (C := RX5) (T := TX5) (N := 8) rfl n_X5_conker_5 (by decide) rfl (by decide +kernel) dX5_conker_95 ?_
      refine g_getR h (index := 176) (j := 5) (inS kS1 0 (by decide)) (C := RX4) (T := TX4) (N := 13) rfl n_X5_conker_4 (by decide) rfl (by decide +kernel) dX5_conker_98 ?_
      refine g_iload_n h 1 dX5_conker_101 rfl rfl ?_
      refine g_iald h (v := M3 1 6 a1.toNatClampNeg) rfl (inS kS1 6 (by decide)) dX5_conker_102 ?_
      refine g_ni (fun v12 => ?_)
      exact g_iret hR rfl dX5_conker_103
    refine g_if (fun hc13 => ?_) (fun hc13 => ?_)
    · refine g_tsIn h 4 (off := 90) 104 hc13 dX5_conker_14 (by decide) (by decide) rfl (by decide) ?_
      refine g_aload_n h 0 dX5_conker_104 rfl rfl ?_
      refine g_getR h (index := 10) (j := 0) iC_0_0 (C := RX5) (T := TX5) (N := 8) rfl n_X5_conker_5 (by decide) rfl (by decide +kernel) dX5_conker_105 ?_
      refine g_getR h (index := 179) (j := 6) (inS kS1 0 (by decide)) (C := RX4) (T := TX4) (N := 13) rfl n_X5_conker_4 (by decide) rfl (by decide +kernel) dX5_conker_108 ?_
      refine g_iload_n h 1 dX5_conker_111 rfl rfl ?_
      refine g_iald h (v := M3 1 7 a1.toNatClampNeg) rfl (inS kS1 7 (by decide)) dX5_conker_112 ?_
      refine g_ni (fun v14 => ?_)
      exact g_iret hR rfl dX5_conker_113
    refine g_if (fun hc15 => ?_) (fun hc15 => ?_)
    · refine g_tsIn h 5 (off := 100) 114 hc15 dX5_conker_14 (by decide) (by decide) rfl (by decide) ?_
      refine g_aload_n h 0 dX5_conker_114 rfl rfl ?_
      refine g_getR h (index := 10) (j := 0) iC_0_0 (C := RX5) (T := TX5) (N := 8) rfl n_X5_conker_5 (by decide) rfl (by decide +kernel) dX5_conker_115 ?_
      refine g_getR h (index := 104) (j := 7) (inS kS1 0 (by decide)) (C := RX4) (T := TX4) (N := 13) rfl n_X5_conker_4 (by decide) rfl (by decide +kernel) dX5_conker_118 ?_
      refine g_iload_n h 1 dX5_conker_121 rfl rfl ?_
      refine g_iald h (v := M3 1 8 a1.toNatClampNeg) rfl (inS kS1 8 (by decide)) dX5_conker_122 ?_
      refine g_ni (fun v16 => ?_)
      exact g_iret hR rfl dX5_conker_123
    refine g_if (fun hc17 => ?_) (fun hc17 => ?_)
    · refine g_tsIn h 6 (off := 110) 124 hc17 dX5_conker_14 (by decide) (by decide) rfl (by decide) ?_
      refine g_aload_n h 0 dX5_conker_124 rfl rfl ?_
      refine g_getR h (index := 10) (j := 0) iC_0_0 (C := RX5) (T := TX5) (N := 8) rfl n_X5_conker_5 (by decide) rfl (by decide +kernel) dX5_conker_125 ?_
      refine g_getR h (index := 101) (j := 8) (inS kS1 0 (by decide)) (C := RX4) (T := TX4) (N := 13) rfl n_X5_conker_4 (by decide) rfl (by decide +kernel) dX5_conker_128 ?_
      refine g_iload_n h 1 dX5_conker_131 rfl rfl ?_
      refine g_iald h (v := M3 1 9 a1.toNatClampNeg) rfl (inS kS1 9 (by decide)) dX5_conker_132 ?_
      refine g_ni (fun v18 => ?_)
      exact g_iret hR rfl dX5_conker_133
    refine g_if (fun hc19 => ?_) (fun hc19 => ?_)
    · refine g_tsIn h 7 (off := 120) 134 hc19 dX5_conker_14 (by decide) (by decide) rfl (by decide) ?_
      refine g_aload_n h 0 dX5_conker_134 rfl rfl ?_
      refine g_getR h (index := 10) (j := 0) iC_0_0 (C := RX5) (T := TX5) (N := 8) rfl n_X5_conker_5 (by decide) rfl (by decide +kernel) dX5_conker_135 ?_
      refine g_getR h (index := 182) (j := 9) (inS kS1 0 (by decide)) (C := RX4) (T := TX4) (N := 13) rfl n_X5_conker_4 (by decide) rfl (by decide +kernel) dX5_conker_138 ?_
      refine g_iload_n h 1 dX5_conker_141 rfl rfl ?_
      refine g_iald h (v := M3 1 10 a1.toNatClampNeg) rfl (inS kS1 10 (by decide)) dX5_conker_142 ?_
      refine g_ni (fun v20 => ?_)
      exact g_iret hR rfl dX5_conker_143
    refine g_if (fun hc21 => ?_) (fun hc21 => ?_)
    · refine g_tsIn h 8 (off := 130) 144 hc21 dX5_conker_14 (by decide) (by decide) rfl (by decide) ?_
      refine g_aload_n h 0 dX5_conker_144 rfl rfl ?_
      refine g_getR h (index := 10) (j := 0) iC_0_0 (C := RX5) (T := TX5) (N := 8) rfl n_X5_conker_5 (by decide) rfl (by decide +kernel) dX5_conker_145 ?_
      refine g_iload_n h 1 dX5_conker_148 rfl rfl ?_
      refine g_callI h (As := [.int a1]) (fun t => uM M3 1 t) (fun r t hG => MI_self (c_X4_conkersSmashedBy l ω 1 kS1 M3 _ a1 hG)) (inS kS1 0 (by decide)) (C := RX4) (T := TX4) (N := 13) rfl 1 rfl gX5_conker_X4_conkersSmashedBy rfl rfl rfl (by decide +kernel) (by decide) (st0 := _) rfl (Nat.le_of_ble_eq_true rfl) dX5_conker_149 (fun r22 M23 => ?_)
      refine g_nm (fun M24 => ?_)
      exact g_iret hR rfl dX5_conker_152
    refine g_tsOut h 153 (by
        have e0 : ¬ Int32.toInt a2 = 0 := lv_neT hc5 (by decide)
        have e1 : ¬ Int32.toInt a2 = 1 := lv_neT hc7 (by decide)
        have e2 : ¬ Int32.toInt a2 = 2 := lv_neT hc9 (by decide)
        have e3 : ¬ Int32.toInt a2 = 3 := lv_neT hc11 (by decide)
        have e4 : ¬ Int32.toInt a2 = 4 := lv_neT hc13 (by decide)
        have e5 : ¬ Int32.toInt a2 = 5 := lv_neT hc15 (by decide)
        have e6 : ¬ Int32.toInt a2 = 6 := lv_neT hc17 (by decide)
        have e7 : ¬ Int32.toInt a2 = 7 := lv_neT hc19 (by decide)
        have e8 : ¬ Int32.toInt a2 = 8 := lv_neT hc21 (by decide)
        omega) dX5_conker_14 (by decide) ?_
    refine g_bipush h (-2) dX5_conker_153 (by decide) ?_
    exact g_iret hR rfl dX5_conker_155
theorem n_X5_count_1 : ∀ w ∈ wsX10, w ∈ wsX5_count := by decide +kernel
theorem n_X5_count_3 : ∀ w ∈ wsX30, w ∈ wsX5_count := by decide +kernel
theorem n_X5_count_4 : ∀ w ∈ wsX40, w ∈ wsX5_count := by decide +kernel
theorem n_X5_count_5 : ∀ w ∈ wsX50, w ∈ wsX5_count := by decide +kernel
set_option maxHeartbeats 4000000 in
set_option maxRecDepth 100000 in
theorem c_X5_count (l : Launch) (ω : Wd)  (M : Mm) (a1 : Int32) {r : Int32} {M' : Mm} (hm : m_X5_count a1 M = some (r, M')) : MI l yX5_count wsX5_count ⟨2, 0, 0, 46⟩ ω LC [.ref (th ω 0 0), .int a1] M r M' := by
  refine met_i (cc := cX5_count) (maxL := 2) (ty := .int) (by decide +kernel) rfl (Nat.le_of_ble_eq_true rfl) LC_nd ?_
  intro Γ h hR ht
  suffices K : Gq Γ ω LC eI 0 [(0, .ref (th ω 0 0)), (1, .int a1)] [] M (m_X5_count a1 M) from K (r, M') hm ht
  unfold m_X5_count
  refine g_iload_n h 1 dX5_count_0 rfl rfl ?_
  refine g_if (fun hc1 => ?_) (fun hc1 => ?_)
  · refine g_tsIn h 0 (off := 63) 64 hc1 dX5_count_1 (by decide) (by decide) rfl (by decide) ?_
    refine g_aload_n h 0 dX5_count_64 rfl rfl ?_
    refine g_getR h (index := 10) (j := 0) iC_0_0 (C := RX5) (T := TX5) (N := 8) rfl n_X5_count_5 (by decide) rfl (by decide +kernel) dX5_count_65 ?_
    refine g_getI h (v := M 1 0 10) rfl (index := 66) (j := 10) (inS kS1 0 (by decide)) (C := RX4) (T := TX4) (N := 13) rfl n_X5_count_4 (by decide) rfl (by decide +kernel) dX5_count_68 ?_
    refine g_ni (fun v2 => ?_)
    exact g_iret hR rfl dX5_count_71
  refine g_if (fun hc3 => ?_) (fun hc3 => ?_)
  · refine g_tsIn h 1 (off := 71) 72 hc3 dX5_count_1 (by decide) (by decide) rfl (by decide) ?_
    refine g_aload_n h 0 dX5_count_72 rfl rfl ?_
    refine g_getR h (index := 10) (j := 0) iC_0_0 (C := RX5) (T := TX5) (N := 8) rfl n_X5_count_5 (by decide) rfl (by decide +kernel) dX5_count_73 ?_
    refine g_iconst h 0 dX5_count_76 (by decide) ?_
    refine g_iconst h (-1) dX5_count_77 (by decide) ?_
    refine g_callI h (As := [.int 0, .int (-1)]) (fun t => uM M 1 t) (fun r t hG => MI_self (c_X4_conkersBeing l ω 1 kS1 M _ 0 (-1) hG)) (inS kS1 0 (by decide)) (C := RX4) (T := TX4) (N := 13) rfl 2 rfl gX5_count_X4_conkersBeing rfl rfl rfl (by decide +kernel) (by decide) (st0 := _) rfl (Nat.le_of_ble_eq_true rfl) dX5_count_78 (fun r4 M5 => ?_)
    refine g_nm (fun M6 => ?_)
    exact g_iret hR rfl dX5_count_81
  refine g_if (fun hc7 => ?_) (fun hc7 => ?_)
  · refine g_tsIn h 2 (off := 81) 82 hc7 dX5_count_1 (by decide) (by decide) rfl (by decide) ?_
    refine g_aload_n h 0 dX5_count_82 rfl rfl ?_
    refine g_getR h (index := 10) (j := 0) iC_0_0 (C := RX5) (T := TX5) (N := 8) rfl n_X5_count_5 (by decide) rfl (by decide +kernel) dX5_count_83 ?_
    refine g_iconst h 1 dX5_count_86 (by decide) ?_
    refine g_iconst h (-1) dX5_count_87 (by decide) ?_
    refine g_callI h (As := [.int 1, .int (-1)]) (fun t => uM M 1 t) (fun r t hG => MI_self (c_X4_conkersBeing l ω 1 kS1 M _ 1 (-1) hG)) (inS kS1 0 (by decide)) (C := RX4) (T := TX4) (N := 13) rfl 2 rfl gX5_count_X4_conkersBeing rfl rfl rfl (by decide +kernel) (by decide) (st0 := _) rfl (Nat.le_of_ble_eq_true rfl) dX5_count_88 (fun r8 M9 => ?_)
    refine g_nm (fun M10 => ?_)
    exact g_iret hR rfl dX5_count_91
  refine g_if (fun hc11 => ?_) (fun hc11 => ?_)
  · refine g_tsIn h 3 (off := 91) 92 hc11 dX5_count_1 (by decide) (by decide) rfl (by decide) ?_
    refine g_aload_n h 0 dX5_count_92 rfl rfl ?_
    refine g_getR h (index := 10) (j := 0) iC_0_0 (C := RX5) (T := TX5) (N := 8) rfl n_X5_count_5 (by decide) rfl (by decide +kernel) dX5_count_93 ?_
    refine g_iconst h 2 dX5_count_96 (by decide) ?_
    refine g_iconst h (-1) dX5_count_97 (by decide) ?_
    refine g_callI h (As := [.int 2, .int (-1)]) (fun t => uM M 1 t) (fun r t hG => MI_self (c_X4_conkersBeing l ω 1 kS1 M _ 2 (-1) hG)) (inS kS1 0 (by decide)) (C := RX4) (T := TX4) (N := 13) rfl 2 rfl gX5_count_X4_conkersBeing rfl rfl rfl (by decide +kernel) (by decide) (st0 := _) rfl (Nat.le_of_ble_eq_true rfl) dX5_count_98 (fun r12 M13 => ?_)
    refine g_nm (fun M14 => ?_)
    exact g_iret hR rfl dX5_count_101
  refine g_if (fun hc15 => ?_) (fun hc15 => ?_)
  · refine g_tsIn h 4 (off := 101) 102 hc15 dX5_count_1 (by decide) (by decide) rfl (by decide) ?_
    refine g_aload_n h 0 dX5_count_102 rfl rfl ?_
    refine g_getR h (index := 10) (j := 0) iC_0_0 (C := RX5) (T := TX5) (N := 8) rfl n_X5_count_5 (by decide) rfl (by decide +kernel) dX5_count_103 ?_
    refine g_iconst h (-1) dX5_count_106 (by decide) ?_
    refine g_callI h (As := [.int (-1)]) (fun t => uM M 1 t) (fun r t hG => MI_self (c_X4_victoriesOf l ω 1 kS1 M _ (-1) hG)) (inS kS1 0 (by decide)) (C := RX4) (T := TX4) (N := 13) rfl 1 rfl gX5_count_X4_victoriesOf rfl rfl rfl (by decide +kernel) (by decide) (st0 := _) rfl (Nat.le_of_ble_eq_true rfl) dX5_count_107 (fun r16 M17 => ?_)
    refine g_nm (fun M18 => ?_)
    exact g_iret hR rfl dX5_count_110
  refine g_if (fun hc19 => ?_) (fun hc19 => ?_)
  · refine g_tsIn h 5 (off := 110) 111 hc19 dX5_count_1 (by decide) (by decide) rfl (by decide) ?_
    refine g_aload_n h 0 dX5_count_111 rfl rfl ?_
    refine g_getR h (index := 10) (j := 0) iC_0_0 (C := RX5) (T := TX5) (N := 8) rfl n_X5_count_5 (by decide) rfl (by decide +kernel) dX5_count_112 ?_
    refine g_getI h (v := M 1 0 11) rfl (index := 203) (j := 11) (inS kS1 0 (by decide)) (C := RX4) (T := TX4) (N := 13) rfl n_X5_count_4 (by decide) rfl (by decide +kernel) dX5_count_115 ?_
    refine g_ni (fun v20 => ?_)
    exact g_iret hR rfl dX5_count_118
  refine g_if (fun hc21 => ?_) (fun hc21 => ?_)
  · refine g_tsIn h 6 (off := 118) 119 hc21 dX5_count_1 (by decide) (by decide) rfl (by decide) ?_
    refine g_aload_n h 0 dX5_count_119 rfl rfl ?_
    refine g_getR h (index := 10) (j := 0) iC_0_0 (C := RX5) (T := TX5) (N := 8) rfl n_X5_count_5 (by decide) rfl (by decide +kernel) dX5_count_120 ?_
    refine g_getI h (v := M 1 0 12) rfl (index := 206) (j := 12) (inS kS1 0 (by decide)) (C := RX4) (T := TX4) (N := 13) rfl n_X5_count_4 (by decide) rfl (by decide +kernel) dX5_count_123 ?_
    refine g_ni (fun v22 => ?_)
    exact g_iret hR rfl dX5_count_126
  refine g_if (fun hc23 => ?_) (fun hc23 => ?_)
  · refine g_tsIn h 7 (off := 126) 127 hc23 dX5_count_1 (by decide) (by decide) rfl (by decide) ?_
    refine g_aload_n h 0 dX5_count_127 rfl rfl ?_
    refine g_getR h (index := 10) (j := 0) iC_0_0 (C := RX5) (T := TX5) (N := 8) rfl n_X5_count_5 (by decide) rfl (by decide +kernel) dX5_count_128 ?_
    refine g_callI h (As := []) (fun t => uM M 1 t) (fun r t hG => MI_self (c_X4_conkersWithHeir l ω 1 kS1 M _ hG)) (inS kS1 0 (by decide)) (C := RX4) (T := TX4) (N := 13) rfl 0 rfl gX5_count_X4_conkersWithHeir rfl rfl rfl (by decide +kernel) (by decide) (st0 := _) rfl (Nat.le_of_ble_eq_true rfl) dX5_count_131 (fun r24 M25 => ?_)
    refine g_nm (fun M26 => ?_)
    exact g_iret hR rfl dX5_count_134
  refine g_if (fun hc27 => ?_) (fun hc27 => ?_)
  · refine g_tsIn h 8 (off := 134) 135 hc27 dX5_count_1 (by decide) (by decide) rfl (by decide) ?_
    refine g_aload_n h 0 dX5_count_135 rfl rfl ?_
    refine g_getR h (index := 10) (j := 0) iC_0_0 (C := RX5) (T := TX5) (N := 8) rfl n_X5_count_5 (by decide) rfl (by decide +kernel) dX5_count_136 ?_
    refine g_callI h (As := []) (fun t => uM M 1 t) (fun r t hG => MI_self (c_X4_boastsTold l ω 1 kS1 M _ hG)) (inS kS1 0 (by decide)) (C := RX4) (T := TX4) (N := 13) rfl 0 rfl gX5_count_X4_boastsTold rfl rfl rfl (by decide +kernel) (by decide) (st0 := _) rfl (Nat.le_of_ble_eq_true rfl) dX5_count_139 (fun r28 M29 => ?_)
    refine g_nm (fun M30 => ?_)
    exact g_iret hR rfl dX5_count_142
  refine g_if (fun hc31 => ?_) (fun hc31 => ?_)
  · refine g_tsIn h 9 (off := 142) 143 hc31 dX5_count_1 (by decide) (by decide) rfl (by decide) ?_
    refine g_aload_n h 0 dX5_count_143 rfl rfl ?_
    refine g_getR h (index := 10) (j := 0) iC_0_0 (C := RX5) (T := TX5) (N := 8) rfl n_X5_count_5 (by decide) rfl (by decide +kernel) dX5_count_144 ?_
    refine g_callI h (As := []) (fun t => uM M 1 t) (fun r t hG => MI_self (c_X4_boastsTooHigh l ω 1 kS1 M _ hG)) (inS kS1 0 (by decide)) (C := RX4) (T := TX4) (N := 13) rfl 0 rfl gX5_count_X4_boastsTooHigh rfl rfl rfl (by decide +kernel) (by decide) (st0 := _) rfl (Nat.le_of_ble_eq_true rfl) dX5_count_147 (fun r32 M33 => ?_)
    refine g_nm (fun M34 => ?_)
    exact g_iret hR rfl dX5_count_150
  refine g_if (fun hc35 => ?_) (fun hc35 => ?_)
  · refine g_tsIn h 10 (off := 150) 151 hc35 dX5_count_1 (by decide) (by decide) rfl (by decide) ?_
    refine g_aload_n h 0 dX5_count_151 rfl rfl ?_
    refine g_getR h (index := 25) (j := 3) iC_0_0 (C := RX5) (T := TX5) (N := 8) rfl n_X5_count_5 (by decide) rfl (by decide +kernel) dX5_count_152 ?_
    refine g_getI h (v := M 12 0 1) rfl (index := 218) (j := 1) iC_12_0 (C := RX1) (T := TX1) (N := 2) rfl n_X5_count_1 (by decide) rfl (by decide +kernel) dX5_count_155 ?_
    refine g_ni (fun v36 => ?_)
    exact g_iret hR rfl dX5_count_158
  refine g_if (fun hc37 => ?_) (fun hc37 => ?_)
  · refine g_tsIn h 11 (off := 158) 159 hc37 dX5_count_1 (by decide) (by decide) rfl (by decide) ?_
    refine g_aload_n h 0 dX5_count_159 rfl rfl ?_
    refine g_getR h (index := 32) (j := 4) iC_0_0 (C := RX5) (T := TX5) (N := 8) rfl n_X5_count_5 (by decide) rfl (by decide +kernel) dX5_count_160 ?_
    refine g_getI h (v := M 9 0 1) rfl (index := 138) (j := 1) iC_9_0 (C := RX3) (T := TX3) (N := 7) rfl n_X5_count_3 (by decide) rfl (by decide +kernel) dX5_count_163 ?_
    refine g_ni (fun v38 => ?_)
    exact g_iret hR rfl dX5_count_166
  refine g_tsOut h 167 (by
      have e0 : ¬ Int32.toInt a1 = 0 := lv_neT hc1 (by decide)
      have e1 : ¬ Int32.toInt a1 = 1 := lv_neT hc3 (by decide)
      have e2 : ¬ Int32.toInt a1 = 2 := lv_neT hc7 (by decide)
      have e3 : ¬ Int32.toInt a1 = 3 := lv_neT hc11 (by decide)
      have e4 : ¬ Int32.toInt a1 = 4 := lv_neT hc15 (by decide)
      have e5 : ¬ Int32.toInt a1 = 5 := lv_neT hc19 (by decide)
      have e6 : ¬ Int32.toInt a1 = 6 := lv_neT hc21 (by decide)
      have e7 : ¬ Int32.toInt a1 = 7 := lv_neT hc23 (by decide)
      have e8 : ¬ Int32.toInt a1 = 8 := lv_neT hc27 (by decide)
      have e9 : ¬ Int32.toInt a1 = 9 := lv_neT hc31 (by decide)
      have e10 : ¬ Int32.toInt a1 = 10 := lv_neT hc35 (by decide)
      have e11 : ¬ Int32.toInt a1 = 11 := lv_neT hc37 (by decide)
      omega) dX5_count_1 (by decide) ?_
  refine g_bipush h (-2) dX5_count_167 (by decide) ?_
  exact g_iret hR rfl dX5_count_169
set_option maxHeartbeats 4000000 in
set_option maxRecDepth 100000 in
theorem c_X5_isPlayer (l : Launch) (ω : Wd)  (M : Mm) (a0 : Int32) {r : Int32} {M' : Mm} (hm : m_X5_isPlayer a0 M = some (r, M')) : MI l yX5_isPlayer wsX5_isPlayer ⟨1, 0, 0, 22⟩ ω L00 [.int a0] M r M' := by
  refine met_i (cc := cX5_isPlayer) (maxL := 1) (ty := .boolean) (by decide +kernel) rfl (Nat.le_of_ble_eq_true rfl) L00_nd ?_
  intro Γ h hR ht
  suffices K : Gq Γ ω L00 eI 0 [(0, .int a0)] [] M (m_X5_isPlayer a0 M) from K (r, M') hm ht
  unfold m_X5_isPlayer
  refine g_iload_n h 0 dX5_isPlayer_0 rfl rfl ?_
  refine g_iconst h 0 dX5_isPlayer_1 (by decide) ?_
  refine g_iconst h 5 dX5_isPlayer_2 (by decide) ?_
  refine g_callP h (As := [.int a0, .int 0, .int 5]) (fun r t hG => c_X5_isWithin l ω M00 a0 0 5 hG) 3 rfl gX5_isPlayer_X5_isWithin rfl rfl rfl (by decide +kernel) (by decide) (st0 := _) rfl (Nat.le_of_ble_eq_true rfl) dX5_isPlayer_3 (fun r1 => ?_)
  exact g_nret hR (fun _ => rfl) dX5_isPlayer_6
theorem n_X5_doubt_4 : ∀ w ∈ wsX40, w ∈ wsX5_doubt := by decide +kernel
theorem n_X5_doubt_5 : ∀ w ∈ wsX50, w ∈ wsX5_doubt := by decide +kernel
set_option maxHeartbeats 4000000 in
set_option maxRecDepth 100000 in
theorem c_X5_doubt (l : Launch) (ω : Wd)  (M : Mm) (a1 : Int32) (a2 : Int32) {r : Int32} {M' : Mm} (hm : m_X5_doubt a1 a2 M = some (r, M')) : MI l yX5_doubt wsX5_doubt ⟨3, 0, 0, 82⟩ ω LC [.ref (th ω 0 0), .int a1, .int a2] M r M' := by
  refine met_i (cc := cX5_doubt) (maxL := 3) (ty := .int) (by decide +kernel) rfl (Nat.le_of_ble_eq_true rfl) LC_nd ?_
  intro Γ h hR ht
  suffices K : Gq Γ ω LC eI 0 [(0, .ref (th ω 0 0)), (1, .int a1), (2, .int a2)] [] M (m_X5_doubt a1 a2 M) from K (r, M') hm ht
  unfold m_X5_doubt
  refine g_iload_n h 1 dX5_doubt_0 rfl rfl ?_
  refine g_callP h (As := [.int a1]) (fun r t hG => c_X5_isPlayer l ω M00 a1 hG) 1 rfl gX5_doubt_X5_isPlayer rfl rfl rfl (by decide +kernel) (by decide) (st0 := _) rfl (Nat.le_of_ble_eq_true rfl) dX5_doubt_1 (fun r1 => ?_)
  refine g_if_eq h 18 dX5_doubt_4 (by decide) (fun hc2 => ?_) (fun hc2 => ?_)
  · skip
    refine g_iconst h (-1) dX5_doubt_18 (by decide) ?_
    exact g_iret hR rfl dX5_doubt_19
  · skip
    refine g_aload_n h 0 dX5_doubt_7 rfl rfl ?_
    refine g_getR h (index := 10) (j := 0) iC_0_0 (C := RX5) (T := TX5) (N := 8) rfl n_X5_doubt_5 (by decide) rfl (by decide +kernel) dX5_doubt_8 ?_
    refine g_iload_n h 2 dX5_doubt_11 rfl rfl ?_
    refine g_callI h (As := [.int a2]) (fun t => uM M 1 t) (fun r t hG => MI_self (c_X4_hasConker l ω 1 kS1 M _ a2 hG)) (inS kS1 0 (by decide)) (C := RX4) (T := TX4) (N := 13) rfl 1 rfl gX5_doubt_X4_hasConker rfl rfl rfl (by decide +kernel) (by decide) (st0 := _) rfl (Nat.le_of_ble_eq_true rfl) dX5_doubt_12 (fun r3 M4 => ?_)
    refine g_nm (fun M5 => ?_)
    refine g_if_ne h 20 dX5_doubt_15 (by decide) (fun hc6 => ?_) (fun hc6 => ?_)
    · skip
      refine g_iconst h (-1) dX5_doubt_18 (by decide) ?_
      exact g_iret hR rfl dX5_doubt_19
    · skip
      refine g_aload_n h 0 dX5_doubt_20 rfl rfl ?_
      refine g_getR h (index := 10) (j := 0) iC_0_0 (C := RX5) (T := TX5) (N := 8) rfl n_X5_doubt_5 (by decide) rfl (by decide +kernel) dX5_doubt_21 ?_
      refine g_getR h (index := 107) (j := 2) (inS kS1 0 (by decide)) (C := RX4) (T := TX4) (N := 13) rfl n_X5_doubt_4 (by decide) rfl (by decide +kernel) dX5_doubt_24 ?_
      refine g_iload_n h 2 dX5_doubt_27 rfl rfl ?_
      refine g_iald h (v := M5 1 3 a2.toNatClampNeg) rfl (inS kS1 3 (by decide)) dX5_doubt_28 ?_
      refine g_ni (fun v7 => ?_)
      refine g_iload_n h 1 dX5_doubt_29 rfl rfl ?_
      refine g_icmp_ne h 36 dX5_doubt_30 (by decide) (fun hc8 => ?_) (fun hc8 => ?_)
      · skip
        refine g_bipush h (-2) dX5_doubt_33 (by decide) ?_
        exact g_iret hR rfl dX5_doubt_35
      · skip
        refine g_aload_n h 0 dX5_doubt_36 rfl rfl ?_
        refine g_getR h (index := 10) (j := 0) iC_0_0 (C := RX5) (T := TX5) (N := 8) rfl n_X5_doubt_5 (by decide) rfl (by decide +kernel) dX5_doubt_37 ?_
        refine g_getR h (index := 104) (j := 7) (inS kS1 0 (by decide)) (C := RX4) (T := TX4) (N := 13) rfl n_X5_doubt_4 (by decide) rfl (by decide +kernel) dX5_doubt_40 ?_
        refine g_iload_n h 2 dX5_doubt_43 rfl rfl ?_
        refine g_iald h (v := M5 1 8 a2.toNatClampNeg) rfl (inS kS1 8 (by decide)) dX5_doubt_44 ?_
        refine g_ni (fun v9 => ?_)
        refine g_bipush h (-5) dX5_doubt_45 (by decide) ?_
        refine g_icmp_ne h 53 dX5_doubt_47 (by decide) (fun hc10 => ?_) (fun hc10 => ?_)
        · skip
          refine g_bipush h (-4) dX5_doubt_50 (by decide) ?_
          exact g_iret hR rfl dX5_doubt_52
        · skip
          refine g_aload_n h 0 dX5_doubt_53 rfl rfl ?_
          refine g_getR h (index := 25) (j := 3) iC_0_0 (C := RX5) (T := TX5) (N := 8) rfl n_X5_doubt_5 (by decide) rfl (by decide +kernel) dX5_doubt_54 ?_
          refine g_aload_n h 0 dX5_doubt_57 rfl rfl ?_
          refine g_getR h (index := 10) (j := 0) iC_0_0 (C := RX5) (T := TX5) (N := 8) rfl n_X5_doubt_5 (by decide) rfl (by decide +kernel) dX5_doubt_58 ?_
          refine g_callV h (As := [.ref (th ω 1 0)]) (fun t => t) (fun r t hG => c_X1_keep l ω _ hG) iC_12_0 (C := RX1) (T := TX1) (N := 2) rfl 1 rfl gX5_doubt_X1_keep rfl rfl rfl (by decide +kernel) (by decide) (st0 := _) rfl (Nat.le_of_ble_eq_true rfl) dX5_doubt_61 (fun r11 M12 => ?_)
          refine g_aload_n h 0 dX5_doubt_64 rfl rfl ?_
          refine g_getR h (index := 10) (j := 0) iC_0_0 (C := RX5) (T := TX5) (N := 8) rfl n_X5_doubt_5 (by decide) rfl (by decide +kernel) dX5_doubt_65 ?_
          refine g_iload_n h 1 dX5_doubt_68 rfl rfl ?_
          refine g_iload_n h 2 dX5_doubt_69 rfl rfl ?_
          refine g_callI h (As := [.int a1, .int a2]) (fun t => uM M12 1 t) (fun r t hG => MI_self (c_X4_settleBoast l ω 1 kS1 M12 _ a1 a2 hG)) (inS kS1 0 (by decide)) (C := RX4) (T := TX4) (N := 13) rfl 2 rfl gX5_doubt_X4_settleBoast rfl rfl rfl (by decide +kernel) (by decide) (st0 := _) rfl (Nat.le_of_ble_eq_true rfl) dX5_doubt_70 (fun r13 M14 => ?_)
          refine g_nm (fun M15 => ?_)
          exact g_iret hR rfl dX5_doubt_73
theorem n_X5_fault_5 : ∀ w ∈ wsX50, w ∈ wsX5_fault := by decide +kernel
set_option maxHeartbeats 4000000 in
set_option maxRecDepth 100000 in
theorem c_X5_fault (l : Launch) (ω : Wd)  (M : Mm) {r : Int32} {M' : Mm} (hm : m_X5_fault M = some (r, M')) : MI l yX5_fault wsX5_fault ⟨5, 0, 0, 104⟩ ω LC [.ref (th ω 0 0)] M r M' := by
  refine met_i (cc := cX5_fault) (maxL := 1) (ty := .int) (by decide +kernel) rfl (Nat.le_of_ble_eq_true rfl) LC_nd ?_
  intro Γ h hR ht
  suffices K : Gq Γ ω LC eI 0 [(0, .ref (th ω 0 0))] [] M (m_X5_fault M) from K (r, M') hm ht
  unfold m_X5_fault
  refine g_aload_n h 0 dX5_fault_0 rfl rfl ?_
  refine g_getR h (index := 32) (j := 4) iC_0_0 (C := RX5) (T := TX5) (N := 8) rfl n_X5_fault_5 (by decide) rfl (by decide +kernel) dX5_fault_1 ?_
  refine g_callI h (As := []) (fun t => uM M 9 t) (fun r t hG => MI_self (c_X3_findFault l ω M _ hG)) iC_9_0 (C := RX3) (T := TX3) (N := 7) rfl 0 rfl gX5_fault_X3_findFault rfl rfl rfl (by decide +kernel) (by decide) (st0 := _) rfl (Nat.le_of_ble_eq_true rfl) dX5_fault_4 (fun r1 M2 => ?_)
  refine g_nm (fun M3 => ?_)
  exact g_iret hR rfl dX5_fault_7
theorem n_X5_give_4 : ∀ w ∈ wsX40, w ∈ wsX5_give := by decide +kernel
theorem n_X5_give_5 : ∀ w ∈ wsX50, w ∈ wsX5_give := by decide +kernel
set_option maxHeartbeats 4000000 in
set_option maxRecDepth 100000 in
theorem c_X5_give (l : Launch) (ω : Wd)  (M : Mm) (a1 : Int32) (a2 : Int32) {r : Int32} {M' : Mm} (hm : m_X5_give a1 a2 M = some (r, M')) : MI l yX5_give wsX5_give ⟨3, 0, 0, 82⟩ ω LC [.ref (th ω 0 0), .int a1, .int a2] M r M' := by
  refine met_i (cc := cX5_give) (maxL := 3) (ty := .int) (by decide +kernel) rfl (Nat.le_of_ble_eq_true rfl) LC_nd ?_
  intro Γ h hR ht
  suffices K : Gq Γ ω LC eI 0 [(0, .ref (th ω 0 0)), (1, .int a1), (2, .int a2)] [] M (m_X5_give a1 a2 M) from K (r, M') hm ht
  unfold m_X5_give
  refine g_iload_n h 1 dX5_give_0 rfl rfl ?_
  refine g_callP h (As := [.int a1]) (fun r t hG => c_X5_isPlayer l ω M00 a1 hG) 1 rfl gX5_give_X5_isPlayer rfl rfl rfl (by decide +kernel) (by decide) (st0 := _) rfl (Nat.le_of_ble_eq_true rfl) dX5_give_1 (fun r1 => ?_)
  refine g_if_ne h 9 dX5_give_4 (by decide) (fun hc2 => ?_) (fun hc2 => ?_)
  · skip
    refine g_iconst h (-1) dX5_give_7 (by decide) ?_
    exact g_iret hR rfl dX5_give_8
  · skip
    refine g_iload_n h 2 dX5_give_9 rfl rfl ?_
    refine g_iconst h 1 dX5_give_10 (by decide) ?_
    refine g_bipush h 9 dX5_give_11 (by decide) ?_
    refine g_callP h (As := [.int a2, .int 1, .int 9]) (fun r t hG => c_X5_isWithin l ω M00 a2 1 9 hG) 3 rfl gX5_give_X5_isWithin rfl rfl rfl (by decide +kernel) (by decide) (st0 := _) rfl (Nat.le_of_ble_eq_true rfl) dX5_give_13 (fun r3 => ?_)
    refine g_if_ne h 22 dX5_give_16 (by decide) (fun hc4 => ?_) (fun hc4 => ?_)
    · skip
      refine g_bipush h (-2) dX5_give_19 (by decide) ?_
      exact g_iret hR rfl dX5_give_21
    · skip
      refine g_aload_n h 0 dX5_give_22 rfl rfl ?_
      refine g_getR h (index := 10) (j := 0) iC_0_0 (C := RX5) (T := TX5) (N := 8) rfl n_X5_give_5 (by decide) rfl (by decide +kernel) dX5_give_23 ?_
      refine g_getR h (index := 62) (j := 0) (inS kS1 0 (by decide)) (C := RX4) (T := TX4) (N := 13) rfl n_X5_give_4 (by decide) rfl (by decide +kernel) dX5_give_26 ?_
      refine g_iload_n h 1 dX5_give_29 rfl rfl ?_
      refine g_iald h (v := M 1 1 a1.toNatClampNeg) rfl (inS kS1 1 (by decide)) dX5_give_30 ?_
      refine g_ni (fun v5 => ?_)
      refine g_iload_n h 2 dX5_give_31 rfl rfl ?_
      refine g_iadd h dX5_give_32 ?_
      refine g_bipush h 20 dX5_give_33 (by decide) ?_
      refine g_icmp_le h 41 dX5_give_35 (by decide) (fun hc6 => ?_) (fun hc6 => ?_)
      · skip
        refine g_aload_n h 0 dX5_give_41 rfl rfl ?_
        refine g_getR h (index := 25) (j := 3) iC_0_0 (C := RX5) (T := TX5) (N := 8) rfl n_X5_give_5 (by decide) rfl (by decide +kernel) dX5_give_42 ?_
        refine g_aload_n h 0 dX5_give_45 rfl rfl ?_
        refine g_getR h (index := 10) (j := 0) iC_0_0 (C := RX5) (T := TX5) (N := 8) rfl n_X5_give_5 (by decide) rfl (by decide +kernel) dX5_give_46 ?_
        refine g_callV h (As := [.ref (th ω 1 0)]) (fun t => t) (fun r t hG => c_X1_keep l ω _ hG) iC_12_0 (C := RX1) (T := TX1) (N := 2) rfl 1 rfl gX5_give_X1_keep rfl rfl rfl (by decide +kernel) (by decide) (st0 := _) rfl (Nat.le_of_ble_eq_true rfl) dX5_give_49 (fun r7 M8 => ?_)
        refine g_aload_n h 0 dX5_give_52 rfl rfl ?_
        refine g_getR h (index := 10) (j := 0) iC_0_0 (C := RX5) (T := TX5) (N := 8) rfl n_X5_give_5 (by decide) rfl (by decide +kernel) dX5_give_53 ?_
        refine g_getR h (index := 62) (j := 0) (inS kS1 0 (by decide)) (C := RX4) (T := TX4) (N := 13) rfl n_X5_give_4 (by decide) rfl (by decide +kernel) dX5_give_56 ?_
        refine g_iload_n h 1 dX5_give_59 rfl rfl ?_
        refine g_dup2 h dX5_give_60 rfl rfl ?_
        refine g_iald h (v := M8 1 1 a1.toNatClampNeg) rfl (inS kS1 1 (by decide)) dX5_give_61 ?_
        refine g_ni (fun v9 => ?_)
        refine g_iload_n h 2 dX5_give_62 rfl rfl ?_
        refine g_iadd h dX5_give_63 ?_
        refine g_iast h (x' := wM M8 1 1 a1.toNatClampNeg (v9 + a2)) rfl (inS kS1 1 (by decide)) dX5_give_64 ?_
        refine g_nm (fun M10 => ?_)
        refine g_aload_n h 0 dX5_give_65 rfl rfl ?_
        refine g_getR h (index := 10) (j := 0) iC_0_0 (C := RX5) (T := TX5) (N := 8) rfl n_X5_give_5 (by decide) rfl (by decide +kernel) dX5_give_66 ?_
        refine g_getR h (index := 62) (j := 0) (inS kS1 0 (by decide)) (C := RX4) (T := TX4) (N := 13) rfl n_X5_give_4 (by decide) rfl (by decide +kernel) dX5_give_69 ?_
        refine g_iload_n h 1 dX5_give_72 rfl rfl ?_
        refine g_iald h (v := M10 1 1 a1.toNatClampNeg) rfl (inS kS1 1 (by decide)) dX5_give_73 ?_
        refine g_ni (fun v11 => ?_)
        exact g_iret hR rfl dX5_give_74
      · skip
        refine g_bipush h (-3) dX5_give_38 (by decide) ?_
        exact g_iret hR rfl dX5_give_40
theorem n_X5_tryHit_5 : ∀ w ∈ wsX50, w ∈ wsX5_tryHit := by decide +kernel
set_option maxHeartbeats 4000000 in
set_option maxRecDepth 100000 in
theorem c_X5_tryHit (l : Launch) (ω : Wd)  (M : Mm) (a1 : Int32) (a2 : Int32) (a3 : Int32) {r : Int32} {M' : Mm} (hm : m_X5_tryHit a1 a2 a3 M = some (r, M')) : MI l yX5_tryHit wsX5_tryHit ⟨4, 0, 0, 93⟩ ω LC [.ref (th ω 0 0), .int a1, .int a2, .int a3] M r M' := by
  refine met_i (cc := cX5_tryHit) (maxL := 4) (ty := .int) (by decide +kernel) rfl (Nat.le_of_ble_eq_true rfl) LC_nd ?_
  intro Γ h hR ht
  suffices K : Gq Γ ω LC eI 0 [(0, .ref (th ω 0 0)), (1, .int a1), (2, .int a2), (3, .int a3)] [] M (m_X5_tryHit a1 a2 a3 M) from K (r, M') hm ht
  unfold m_X5_tryHit
  refine g_aload_n h 0 dX5_tryHit_0 rfl rfl ?_
  refine g_getR h (index := 19) (j := 2) iC_0_0 (C := RX5) (T := TX5) (N := 8) rfl n_X5_tryHit_5 (by decide) rfl (by decide +kernel) dX5_tryHit_1 ?_
  refine g_aload_n h 0 dX5_tryHit_4 rfl rfl ?_
  refine g_getR h (index := 10) (j := 0) iC_0_0 (C := RX5) (T := TX5) (N := 8) rfl n_X5_tryHit_5 (by decide) rfl (by decide +kernel) dX5_tryHit_5 ?_
  refine g_callV h (As := [.ref (th ω 1 0)]) (fun t => t) (fun r t hG => c_X4_copyFrom l ω 3 1 kS3 kS1 _ hG) (inS kS3 0 (by decide)) (C := RX4) (T := TX4) (N := 13) rfl 1 rfl gX5_tryHit_X4_copyFrom rfl rfl rfl (by decide +kernel) (by decide) (st0 := _) rfl (Nat.le_of_ble_eq_true rfl) dX5_tryHit_8 (fun r1 M2 => ?_)
  refine g_aload_n h 0 dX5_tryHit_11 rfl rfl ?_
  refine g_getR h (index := 19) (j := 2) iC_0_0 (C := RX5) (T := TX5) (N := 8) rfl n_X5_tryHit_5 (by decide) rfl (by decide +kernel) dX5_tryHit_12 ?_
  refine g_iload_n h 1 dX5_tryHit_15 rfl rfl ?_
  refine g_iload_n h 2 dX5_tryHit_16 rfl rfl ?_
  refine g_iload_n h 3 dX5_tryHit_17 rfl rfl ?_
  refine g_callI h (As := [.int a1, .int a2, .int a3]) (fun t => uM M2 3 t) (fun r t hG => MI_self (c_X4_hit l ω 3 kS3 M2 _ a1 a2 a3 hG)) (inS kS3 0 (by decide)) (C := RX4) (T := TX4) (N := 13) rfl 3 rfl gX5_tryHit_X4_hit rfl rfl rfl (by decide +kernel) (by decide) (st0 := _) rfl (Nat.le_of_ble_eq_true rfl) dX5_tryHit_18 (fun r3 M4 => ?_)
  refine g_nm (fun M5 => ?_)
  exact g_iret hR rfl dX5_tryHit_21
theorem n_X5_ifStruck_5 : ∀ w ∈ wsX50, w ∈ wsX5_ifStruck := by decide +kernel
set_option maxHeartbeats 4000000 in
set_option maxRecDepth 100000 in
theorem c_X5_ifStruck (l : Launch) (ω : Wd)  (M : Mm) (a1 : Int32) (a2 : Int32) (a3 : Int32) {r : Int32} {M' : Mm} (hm : m_X5_ifStruck a1 a2 a3 M = some (r, M')) : MI l yX5_ifStruck wsX5_ifStruck ⟨5, 0, 0, 116⟩ ω LC [.ref (th ω 0 0), .int a1, .int a2, .int a3] M r M' := by
  refine met_i (cc := cX5_ifStruck) (maxL := 5) (ty := .int) (by decide +kernel) rfl (Nat.le_of_ble_eq_true rfl) LC_nd ?_
  intro Γ h hR ht
  suffices K : Gq Γ ω LC eI 0 [(0, .ref (th ω 0 0)), (1, .int a1), (2, .int a2), (3, .int a3)] [] M (m_X5_ifStruck a1 a2 a3 M) from K (r, M') hm ht
  unfold m_X5_ifStruck
  refine g_aload_n h 0 dX5_ifStruck_0 rfl rfl ?_
  refine g_getR h (index := 10) (j := 0) iC_0_0 (C := RX5) (T := TX5) (N := 8) rfl n_X5_ifStruck_5 (by decide) rfl (by decide +kernel) dX5_ifStruck_1 ?_
  refine g_iload_n h 1 dX5_ifStruck_4 rfl rfl ?_
  refine g_iload_n h 2 dX5_ifStruck_5 rfl rfl ?_
  refine g_iload_n h 3 dX5_ifStruck_6 rfl rfl ?_
  refine g_callI h (As := [.int a1, .int a2, .int a3]) (fun t => uM M 1 t) (fun r t hG => MI_self (c_X4_strikeError l ω 1 kS1 M _ a1 a2 a3 hG)) (inS kS1 0 (by decide)) (C := RX4) (T := TX4) (N := 13) rfl 3 rfl gX5_ifStruck_X4_strikeError rfl rfl rfl (by decide +kernel) (by decide) (st0 := _) rfl (Nat.le_of_ble_eq_true rfl) dX5_ifStruck_7 (fun r1 M2 => ?_)
  refine g_nm (fun M3 => ?_)
  refine g_istore h (lv' := [(4, .int r1), (0, .ref (th ω 0 0)), (1, .int a1), (2, .int a2), (3, .int a3)]) dX5_ifStruck_10 (by decide) [0, 1, 2, 3, 4] rfl ?_
  refine g_iload h 0 dX5_ifStruck_12 rfl ?_
  refine g_if_eq h 20 dX5_ifStruck_14 (by decide) (fun hc4 => ?_) (fun hc4 => ?_)
  · skip
    refine g_aload_n h 1 dX5_ifStruck_20 rfl rfl ?_
    refine g_iload_n h 2 dX5_ifStruck_21 rfl rfl ?_
    refine g_iload_n h 3 dX5_ifStruck_22 rfl rfl ?_
    refine g_iload_n h 4 dX5_ifStruck_23 rfl rfl ?_
    refine g_callI h (As := [.int a1, .int a2, .int a3]) (fun t => t) (fun r t hG => c_X5_tryHit l ω _ a1 a2 a3 hG) iC_0_0 (C := RX5) (T := TX5) (N := 8) rfl 3 rfl gX5_ifStruck_X5_tryHit rfl rfl rfl (by decide +kernel) (by decide) (st0 := _) rfl (Nat.le_of_ble_eq_true rfl) dX5_ifStruck_24 (fun r5 M6 => ?_)
    exact g_iret hR rfl dX5_ifStruck_27
  · skip
    refine g_iload h 0 dX5_ifStruck_17 rfl ?_
    exact g_iret hR rfl dX5_ifStruck_19
theorem n_X5_leastSwing_5 : ∀ w ∈ wsX50, w ∈ wsX5_leastSwing := by decide +kernel
set_option maxHeartbeats 4000000 in
set_option maxRecDepth 100000 in
theorem b_X5_leastSwing_20 {Γ : Cx} {l : Launch} {ω : Wd}  (h : CxOk Γ l ⟨5, 0, 0, 116⟩ 6 ω LC cX5_leastSwing yX5_leastSwing.cls wsX5_leastSwing) (hR : RetI Γ ω LC cX5_leastSwing .int) : ∀ (n : Nat) (b1 : Int32) (b2 : Int32) (b4 : Int32) (M : Mm), Gq Γ ω LC eI 20 [(0, .ref (th ω 0 0)), (1, .int b1), (2, .int b2), (4, .int b4)] [] M (m_X5_leastSwing_20 n b1 b2 b4 M) := by
  intro n
  induction n with
  | zero =>
    intro b1 b2 b4 M
    rw [m_X5_leastSwing_20.eq_1]
    exact g_none
  | succ n ih =>
    intro b1 b2 b4 M
    rw [m_X5_leastSwing_20.eq_2]
    refine g_iload h 3 dX5_leastSwing_20 rfl ?_
    refine g_bipush h 9 dX5_leastSwing_22 (by decide) ?_
    refine g_icmp_gt h 54 dX5_leastSwing_24 (by decide) (fun hc1 => ?_) (fun hc1 => ?_)
    · skip
      refine g_bipush h (-5) dX5_leastSwing_54 (by decide) ?_
      exact g_iret hR rfl dX5_leastSwing_56
    · skip
      refine g_aload_n h 0 dX5_leastSwing_27 rfl rfl ?_
      refine g_iload_n h 1 dX5_leastSwing_28 rfl rfl ?_
      refine g_iload_n h 2 dX5_leastSwing_29 rfl rfl ?_
      refine g_iload h 3 dX5_leastSwing_30 rfl ?_
      refine g_callI h (As := [.int b1, .int b2, .int b4]) (fun t => t) (fun r t hG => c_X5_tryHit l ω _ b1 b2 b4 hG) iC_0_0 (C := RX5) (T := TX5) (N := 8) rfl 3 rfl gX5_leastSwing_X5_tryHit rfl rfl rfl (by decide +kernel) (by decide) (st0 := _) rfl (Nat.le_of_ble_eq_true rfl) dX5_leastSwing_32 (fun r2 M3 => ?_)
      refine g_iconst h 3 dX5_leastSwing_35 (by decide) ?_
      refine g_iand h dX5_leastSwing_36 ?_
      refine g_istore h (lv' := [(5, .int (r2 &&& 3)), (0, .ref (th ω 0 0)), (1, .int b1), (2, .int b2), (4, .int b4)]) dX5_leastSwing_37 (by decide) [0, 1, 2, 3, 4] rfl ?_
      refine g_iload h 0 dX5_leastSwing_39 rfl ?_
      refine g_iconst h 2 dX5_leastSwing_41 (by decide) ?_
      refine g_icmp_ne h 48 dX5_leastSwing_42 (by decide) (fun hc4 => ?_) (fun hc4 => ?_)
      · skip
        refine g_iload h 4 dX5_leastSwing_45 rfl ?_
        exact g_iret hR rfl dX5_leastSwing_47
      · skip
        refine g_iinc h (b4 + 1) (lv' := [(4, .int (b4 + 1)), (5, .int (r2 &&& 3)), (0, .ref (th ω 0 0)), (1, .int b1), (2, .int b2)]) dX5_leastSwing_48 4 rfl (congrArg (fun z => b4 + z) (by decide)) (by decide) [0, 1, 2, 3, 4] rfl ?_
        refine g_goto h (tgt := 20) dX5_leastSwing_51 (by decide) ?_
        refine g_sub (lv' := [(0, .ref (th ω 0 0)), (1, .int b1), (2, .int b2), (4, .int (b4 + 1))]) [2, 3, 4, 0] rfl ?_
        exact ih _ _ _ _
set_option maxHeartbeats 4000000 in
set_option maxRecDepth 100000 in
theorem c_X5_leastSwing (l : Launch) (ω : Wd)  (M : Mm) (a1 : Int32) (a2 : Int32) {r : Int32} {M' : Mm} (hm : m_X5_leastSwing a1 a2 M = some (r, M')) : MI l yX5_leastSwing wsX5_leastSwing ⟨5, 0, 0, 116⟩ ω LC [.ref (th ω 0 0), .int a1, .int a2] M r M' := by
  refine met_i (cc := cX5_leastSwing) (maxL := 6) (ty := .int) (by decide +kernel) rfl (Nat.le_of_ble_eq_true rfl) LC_nd ?_
  intro Γ h hR ht
  suffices K : Gq Γ ω LC eI 0 [(0, .ref (th ω 0 0)), (1, .int a1), (2, .int a2)] [] M (m_X5_leastSwing a1 a2 M) from K (r, M') hm ht
  unfold m_X5_leastSwing
  refine g_aload_n h 0 dX5_leastSwing_0 rfl rfl ?_
  refine g_getR h (index := 10) (j := 0) iC_0_0 (C := RX5) (T := TX5) (N := 8) rfl n_X5_leastSwing_5 (by decide) rfl (by decide +kernel) dX5_leastSwing_1 ?_
  refine g_iload_n h 1 dX5_leastSwing_4 rfl rfl ?_
  refine g_iload_n h 2 dX5_leastSwing_5 rfl rfl ?_
  refine g_iconst h 1 dX5_leastSwing_6 (by decide) ?_
  refine g_callI h (As := [.int a1, .int a2, .int 1]) (fun t => uM M 1 t) (fun r t hG => MI_self (c_X4_strikeError l ω 1 kS1 M _ a1 a2 1 hG)) (inS kS1 0 (by decide)) (C := RX4) (T := TX4) (N := 13) rfl 3 rfl gX5_leastSwing_X4_strikeError rfl rfl rfl (by decide +kernel) (by decide) (st0 := _) rfl (Nat.le_of_ble_eq_true rfl) dX5_leastSwing_7 (fun r1 M2 => ?_)
  refine g_nm (fun M3 => ?_)
  refine g_istore_n h rfl (lv' := [(3, .int r1), (0, .ref (th ω 0 0)), (1, .int a1), (2, .int a2)]) dX5_leastSwing_10 (by decide) [0, 1, 2, 3] rfl ?_
  refine g_iload_n h 0 dX5_leastSwing_11 rfl rfl ?_
  refine g_if_eq h 17 dX5_leastSwing_12 (by decide) (fun hc4 => ?_) (fun hc4 => ?_)
  · skip
    refine g_iconst h 1 dX5_leastSwing_17 (by decide) ?_
    refine g_istore h (lv' := [(4, .int 1), (3, .int r1), (0, .ref (th ω 0 0)), (1, .int a1), (2, .int a2)]) dX5_leastSwing_18 (by decide) [0, 1, 2, 3, 4] rfl ?_
    refine g_sub (lv' := [(0, .ref (th ω 0 0)), (1, .int a1), (2, .int a2), (4, .int 1)]) [2, 3, 4, 0] rfl ?_
    exact b_X5_leastSwing_20 h hR fu _ _ _ _
  · skip
    refine g_iload_n h 0 dX5_leastSwing_15 rfl rfl ?_
    exact g_iret hR rfl dX5_leastSwing_16
theorem n_X5_line_5 : ∀ w ∈ wsX50, w ∈ wsX5_line := by decide +kernel
set_option maxHeartbeats 4000000 in
set_option maxRecDepth 100000 in
theorem c_X5_line (l : Launch) (ω : Wd)  (M : Mm) (a1 : Int32) {r : Int32} {M' : Mm} (hm : m_X5_line a1 M = some (r, M')) : MI l yX5_line wsX5_line ⟨4, 0, 0, 90⟩ ω LC [.ref (th ω 0 0), .int a1] M r M' := by
  refine met_i (cc := cX5_line) (maxL := 2) (ty := .int) (by decide +kernel) rfl (Nat.le_of_ble_eq_true rfl) LC_nd ?_
  intro Γ h hR ht
  suffices K : Gq Γ ω LC eI 0 [(0, .ref (th ω 0 0)), (1, .int a1)] [] M (m_X5_line a1 M) from K (r, M') hm ht
  unfold m_X5_line
  refine g_aload_n h 0 dX5_line_0 rfl rfl ?_
  refine g_getR h (index := 10) (j := 0) iC_0_0 (C := RX5) (T := TX5) (N := 8) rfl n_X5_line_5 (by decide) rfl (by decide +kernel) dX5_line_1 ?_
  refine g_iload_n h 1 dX5_line_4 rfl rfl ?_
  refine g_callI h (As := [.int a1]) (fun t => uM M 1 t) (fun r t hG => MI_self (c_X4_hasConker l ω 1 kS1 M _ a1 hG)) (inS kS1 0 (by decide)) (C := RX4) (T := TX4) (N := 13) rfl 1 rfl gX5_line_X4_hasConker rfl rfl rfl (by decide +kernel) (by decide) (st0 := _) rfl (Nat.le_of_ble_eq_true rfl) dX5_line_5 (fun r1 M2 => ?_)
  refine g_nm (fun M3 => ?_)
  refine g_if_ne h 13 dX5_line_8 (by decide) (fun hc4 => ?_) (fun hc4 => ?_)
  · skip
    refine g_iconst h (-1) dX5_line_11 (by decide) ?_
    exact g_iret hR rfl dX5_line_12
  · skip
    refine g_aload_n h 0 dX5_line_13 rfl rfl ?_
    refine g_getR h (index := 10) (j := 0) iC_0_0 (C := RX5) (T := TX5) (N := 8) rfl n_X5_line_5 (by decide) rfl (by decide +kernel) dX5_line_14 ?_
    refine g_iload_n h 1 dX5_line_17 rfl rfl ?_
    refine g_callI h (As := [.int a1]) (fun t => uM M3 1 t) (fun r t hG => MI_self (c_X4_lengthOfLine l ω 1 kS1 M3 _ a1 hG)) (inS kS1 0 (by decide)) (C := RX4) (T := TX4) (N := 13) rfl 1 rfl gX5_line_X4_lengthOfLine rfl rfl rfl (by decide +kernel) (by decide) (st0 := _) rfl (Nat.le_of_ble_eq_true rfl) dX5_line_18 (fun r5 M6 => ?_)
    refine g_nm (fun M7 => ?_)
    exact g_iret hR rfl dX5_line_21
theorem n_X5_mend_5 : ∀ w ∈ wsX50, w ∈ wsX5_mend := by decide +kernel
set_option maxHeartbeats 4000000 in
set_option maxRecDepth 100000 in
theorem c_X5_mend (l : Launch) (ω : Wd)  (M : Mm) (a1 : Int32) {r : Int32} {M' : Mm} (hm : m_X5_mend a1 M = some (r, M')) : MI l yX5_mend wsX5_mend ⟨4, 0, 0, 86⟩ ω LC [.ref (th ω 0 0), .int a1] M r M' := by
  refine met_i (cc := cX5_mend) (maxL := 3) (ty := .int) (by decide +kernel) rfl (Nat.le_of_ble_eq_true rfl) LC_nd ?_
  intro Γ h hR ht
  suffices K : Gq Γ ω LC eI 0 [(0, .ref (th ω 0 0)), (1, .int a1)] [] M (m_X5_mend a1 M) from K (r, M') hm ht
  unfold m_X5_mend
  refine g_aload_n h 0 dX5_mend_0 rfl rfl ?_
  refine g_getR h (index := 10) (j := 0) iC_0_0 (C := RX5) (T := TX5) (N := 8) rfl n_X5_mend_5 (by decide) rfl (by decide +kernel) dX5_mend_1 ?_
  refine g_iload_n h 1 dX5_mend_4 rfl rfl ?_
  refine g_callI h (As := [.int a1]) (fun t => uM M 1 t) (fun r t hG => MI_self (c_X4_mendError l ω 1 kS1 M _ a1 hG)) (inS kS1 0 (by decide)) (C := RX4) (T := TX4) (N := 13) rfl 1 rfl gX5_mend_X4_mendError rfl rfl rfl (by decide +kernel) (by decide) (st0 := _) rfl (Nat.le_of_ble_eq_true rfl) dX5_mend_5 (fun r1 M2 => ?_)
  refine g_nm (fun M3 => ?_)
  refine g_istore_n h rfl (lv' := [(2, .int r1), (0, .ref (th ω 0 0)), (1, .int a1)]) dX5_mend_8 (by decide) [0, 1, 2] rfl ?_
  refine g_iload_n h 0 dX5_mend_9 rfl rfl ?_
  refine g_if_eq h 15 dX5_mend_10 (by decide) (fun hc4 => ?_) (fun hc4 => ?_)
  · skip
    refine g_aload_n h 1 dX5_mend_15 rfl rfl ?_
    refine g_getR h (index := 25) (j := 3) iC_0_0 (C := RX5) (T := TX5) (N := 8) rfl n_X5_mend_5 (by decide) rfl (by decide +kernel) dX5_mend_16 ?_
    refine g_aload_n h 1 dX5_mend_19 rfl rfl ?_
    refine g_getR h (index := 10) (j := 0) iC_0_0 (C := RX5) (T := TX5) (N := 8) rfl n_X5_mend_5 (by decide) rfl (by decide +kernel) dX5_mend_20 ?_
    refine g_callV h (As := [.ref (th ω 1 0)]) (fun t => t) (fun r t hG => c_X1_keep l ω _ hG) iC_12_0 (C := RX1) (T := TX1) (N := 2) rfl 1 rfl gX5_mend_X1_keep rfl rfl rfl (by decide +kernel) (by decide) (st0 := _) rfl (Nat.le_of_ble_eq_true rfl) dX5_mend_23 (fun r5 M6 => ?_)
    refine g_aload_n h 1 dX5_mend_26 rfl rfl ?_
    refine g_getR h (index := 10) (j := 0) iC_0_0 (C := RX5) (T := TX5) (N := 8) rfl n_X5_mend_5 (by decide) rfl (by decide +kernel) dX5_mend_27 ?_
    refine g_iload_n h 2 dX5_mend_30 rfl rfl ?_
    refine g_callI h (As := [.int a1]) (fun t => uM M6 1 t) (fun r t hG => MI_self (c_X4_threadAgain l ω 1 kS1 M6 _ a1 hG)) (inS kS1 0 (by decide)) (C := RX4) (T := TX4) (N := 13) rfl 1 rfl gX5_mend_X4_threadAgain rfl rfl rfl (by decide +kernel) (by decide) (st0 := _) rfl (Nat.le_of_ble_eq_true rfl) dX5_mend_31 (fun r7 M8 => ?_)
    refine g_nm (fun M9 => ?_)
    exact g_iret hR rfl dX5_mend_34
  · skip
    refine g_iload_n h 0 dX5_mend_13 rfl rfl ?_
    exact g_iret hR rfl dX5_mend_14
theorem n_X5_player_4 : ∀ w ∈ wsX40, w ∈ wsX5_player := by decide +kernel
theorem n_X5_player_5 : ∀ w ∈ wsX50, w ∈ wsX5_player := by decide +kernel
set_option maxHeartbeats 4000000 in
set_option maxRecDepth 100000 in
theorem c_X5_player (l : Launch) (ω : Wd)  (M : Mm) (a1 : Int32) (a2 : Int32) {r : Int32} {M' : Mm} (hm : m_X5_player a1 a2 M = some (r, M')) : MI l yX5_player wsX5_player ⟨2, 0, 0, 46⟩ ω LC [.ref (th ω 0 0), .int a1, .int a2] M r M' := by
  refine met_i (cc := cX5_player) (maxL := 3) (ty := .int) (by decide +kernel) rfl (Nat.le_of_ble_eq_true rfl) LC_nd ?_
  intro Γ h hR ht
  suffices K : Gq Γ ω LC eI 0 [(0, .ref (th ω 0 0)), (1, .int a1), (2, .int a2)] [] M (m_X5_player a1 a2 M) from K (r, M') hm ht
  unfold m_X5_player
  refine g_iload_n h 1 dX5_player_0 rfl rfl ?_
  refine g_callP h (As := [.int a1]) (fun r t hG => c_X5_isPlayer l ω M00 a1 hG) 1 rfl gX5_player_X5_isPlayer rfl rfl rfl (by decide +kernel) (by decide) (st0 := _) rfl (Nat.le_of_ble_eq_true rfl) dX5_player_1 (fun r1 => ?_)
  refine g_if_ne h 9 dX5_player_4 (by decide) (fun hc2 => ?_) (fun hc2 => ?_)
  · skip
    refine g_iconst h (-1) dX5_player_7 (by decide) ?_
    exact g_iret hR rfl dX5_player_8
  · skip
    refine g_iload_n h 2 dX5_player_9 rfl rfl ?_
    refine g_if (fun hc3 => ?_) (fun hc3 => ?_)
    · refine g_tsIn h 0 (off := 42) 52 hc3 dX5_player_10 (by decide) (by decide) rfl (by decide) ?_
      refine g_aload_n h 0 dX5_player_52 rfl rfl ?_
      refine g_getR h (index := 10) (j := 0) iC_0_0 (C := RX5) (T := TX5) (N := 8) rfl n_X5_player_5 (by decide) rfl (by decide +kernel) dX5_player_53 ?_
      refine g_getR h (index := 62) (j := 0) (inS kS1 0 (by decide)) (C := RX4) (T := TX4) (N := 13) rfl n_X5_player_4 (by decide) rfl (by decide +kernel) dX5_player_56 ?_
      refine g_iload_n h 1 dX5_player_59 rfl rfl ?_
      refine g_iald h (v := M 1 1 a1.toNatClampNeg) rfl (inS kS1 1 (by decide)) dX5_player_60 ?_
      refine g_ni (fun v4 => ?_)
      exact g_iret hR rfl dX5_player_61
    refine g_if (fun hc5 => ?_) (fun hc5 => ?_)
    · refine g_tsIn h 1 (off := 52) 62 hc5 dX5_player_10 (by decide) (by decide) rfl (by decide) ?_
      refine g_aload_n h 0 dX5_player_62 rfl rfl ?_
      refine g_getR h (index := 10) (j := 0) iC_0_0 (C := RX5) (T := TX5) (N := 8) rfl n_X5_player_5 (by decide) rfl (by decide +kernel) dX5_player_63 ?_
      refine g_getR h (index := 188) (j := 1) (inS kS1 0 (by decide)) (C := RX4) (T := TX4) (N := 13) rfl n_X5_player_4 (by decide) rfl (by decide +kernel) dX5_player_66 ?_
      refine g_iload_n h 1 dX5_player_69 rfl rfl ?_
      refine g_iald h (v := M 1 2 a1.toNatClampNeg) rfl (inS kS1 2 (by decide)) dX5_player_70 ?_
      refine g_ni (fun v6 => ?_)
      exact g_iret hR rfl dX5_player_71
    refine g_if (fun hc7 => ?_) (fun hc7 => ?_)
    · refine g_tsIn h 2 (off := 62) 72 hc7 dX5_player_10 (by decide) (by decide) rfl (by decide) ?_
      refine g_aload_n h 0 dX5_player_72 rfl rfl ?_
      refine g_getR h (index := 10) (j := 0) iC_0_0 (C := RX5) (T := TX5) (N := 8) rfl n_X5_player_5 (by decide) rfl (by decide +kernel) dX5_player_73 ?_
      refine g_iconst h 0 dX5_player_76 (by decide) ?_
      refine g_iload_n h 1 dX5_player_77 rfl rfl ?_
      refine g_callI h (As := [.int 0, .int a1]) (fun t => uM M 1 t) (fun r t hG => MI_self (c_X4_conkersBeing l ω 1 kS1 M _ 0 a1 hG)) (inS kS1 0 (by decide)) (C := RX4) (T := TX4) (N := 13) rfl 2 rfl gX5_player_X4_conkersBeing rfl rfl rfl (by decide +kernel) (by decide) (st0 := _) rfl (Nat.le_of_ble_eq_true rfl) dX5_player_78 (fun r8 M9 => ?_)
      refine g_nm (fun M10 => ?_)
      exact g_iret hR rfl dX5_player_81
    refine g_if (fun hc11 => ?_) (fun hc11 => ?_)
    · refine g_tsIn h 3 (off := 72) 82 hc11 dX5_player_10 (by decide) (by decide) rfl (by decide) ?_
      refine g_aload_n h 0 dX5_player_82 rfl rfl ?_
      refine g_getR h (index := 10) (j := 0) iC_0_0 (C := RX5) (T := TX5) (N := 8) rfl n_X5_player_5 (by decide) rfl (by decide +kernel) dX5_player_83 ?_
      refine g_iconst h 1 dX5_player_86 (by decide) ?_
      refine g_iload_n h 1 dX5_player_87 rfl rfl ?_
      refine g_callI h (As := [.int 1, .int a1]) (fun t => uM M 1 t) (fun r t hG => MI_self (c_X4_conkersBeing l ω 1 kS1 M _ 1 a1 hG)) (inS kS1 0 (by decide)) (C := RX4) (T := TX4) (N := 13) rfl 2 rfl gX5_player_X4_conkersBeing rfl rfl rfl (by decide +kernel) (by decide) (st0 := _) rfl (Nat.le_of_ble_eq_true rfl) dX5_player_88 (fun r12 M13 => ?_)
      refine g_nm (fun M14 => ?_)
      exact g_iret hR rfl dX5_player_91
    refine g_if (fun hc15 => ?_) (fun hc15 => ?_)
    · refine g_tsIn h 4 (off := 82) 92 hc15 dX5_player_10 (by decide) (by decide) rfl (by decide) ?_
      refine g_aload_n h 0 dX5_player_92 rfl rfl ?_
      refine g_getR h (index := 10) (j := 0) iC_0_0 (C := RX5) (T := TX5) (N := 8) rfl n_X5_player_5 (by decide) rfl (by decide +kernel) dX5_player_93 ?_
      refine g_iconst h 2 dX5_player_96 (by decide) ?_
      refine g_iload_n h 1 dX5_player_97 rfl rfl ?_
      refine g_callI h (As := [.int 2, .int a1]) (fun t => uM M 1 t) (fun r t hG => MI_self (c_X4_conkersBeing l ω 1 kS1 M _ 2 a1 hG)) (inS kS1 0 (by decide)) (C := RX4) (T := TX4) (N := 13) rfl 2 rfl gX5_player_X4_conkersBeing rfl rfl rfl (by decide +kernel) (by decide) (st0 := _) rfl (Nat.le_of_ble_eq_true rfl) dX5_player_98 (fun r16 M17 => ?_)
      refine g_nm (fun M18 => ?_)
      exact g_iret hR rfl dX5_player_101
    refine g_if (fun hc19 => ?_) (fun hc19 => ?_)
    · refine g_tsIn h 5 (off := 92) 102 hc19 dX5_player_10 (by decide) (by decide) rfl (by decide) ?_
      refine g_aload_n h 0 dX5_player_102 rfl rfl ?_
      refine g_getR h (index := 10) (j := 0) iC_0_0 (C := RX5) (T := TX5) (N := 8) rfl n_X5_player_5 (by decide) rfl (by decide +kernel) dX5_player_103 ?_
      refine g_iload_n h 1 dX5_player_106 rfl rfl ?_
      refine g_callI h (As := [.int a1]) (fun t => uM M 1 t) (fun r t hG => MI_self (c_X4_victoriesOf l ω 1 kS1 M _ a1 hG)) (inS kS1 0 (by decide)) (C := RX4) (T := TX4) (N := 13) rfl 1 rfl gX5_player_X4_victoriesOf rfl rfl rfl (by decide +kernel) (by decide) (st0 := _) rfl (Nat.le_of_ble_eq_true rfl) dX5_player_107 (fun r20 M21 => ?_)
      refine g_nm (fun M22 => ?_)
      exact g_iret hR rfl dX5_player_110
    refine g_if (fun hc23 => ?_) (fun hc23 => ?_)
    · refine g_tsIn h 6 (off := 101) 111 hc23 dX5_player_10 (by decide) (by decide) rfl (by decide) ?_
      refine g_aload_n h 0 dX5_player_111 rfl rfl ?_
      refine g_getR h (index := 10) (j := 0) iC_0_0 (C := RX5) (T := TX5) (N := 8) rfl n_X5_player_5 (by decide) rfl (by decide +kernel) dX5_player_112 ?_
      refine g_iload_n h 1 dX5_player_115 rfl rfl ?_
      refine g_callI h (As := [.int a1]) (fun t => uM M 1 t) (fun r t hG => MI_self (c_X4_conkerToSend l ω 1 kS1 M _ a1 hG)) (inS kS1 0 (by decide)) (C := RX4) (T := TX4) (N := 13) rfl 1 rfl gX5_player_X4_conkerToSend rfl rfl rfl (by decide +kernel) (by decide) (st0 := _) rfl (Nat.le_of_ble_eq_true rfl) dX5_player_116 (fun r24 M25 => ?_)
      refine g_nm (fun M26 => ?_)
      exact g_iret hR rfl dX5_player_119
    refine g_tsOut h 120 (by
        have e0 : ¬ Int32.toInt a2 = 0 := lv_neT hc3 (by decide)
        have e1 : ¬ Int32.toInt a2 = 1 := lv_neT hc5 (by decide)
        have e2 : ¬ Int32.toInt a2 = 2 := lv_neT hc7 (by decide)
        have e3 : ¬ Int32.toInt a2 = 3 := lv_neT hc11 (by decide)
        have e4 : ¬ Int32.toInt a2 = 4 := lv_neT hc15 (by decide)
        have e5 : ¬ Int32.toInt a2 = 5 := lv_neT hc19 (by decide)
        have e6 : ¬ Int32.toInt a2 = 6 := lv_neT hc23 (by decide)
        omega) dX5_player_10 (by decide) ?_
    refine g_bipush h (-2) dX5_player_120 (by decide) ?_
    exact g_iret hR rfl dX5_player_122
theorem n_X5_ranked_5 : ∀ w ∈ wsX50, w ∈ wsX5_ranked := by decide +kernel
set_option maxHeartbeats 4000000 in
set_option maxRecDepth 100000 in
theorem c_X5_ranked (l : Launch) (ω : Wd)  (M : Mm) (a1 : Int32) {r : Int32} {M' : Mm} (hm : m_X5_ranked a1 M = some (r, M')) : MI l yX5_ranked wsX5_ranked ⟨2, 0, 0, 47⟩ ω LC [.ref (th ω 0 0), .int a1] M r M' := by
  refine met_i (cc := cX5_ranked) (maxL := 2) (ty := .int) (by decide +kernel) rfl (Nat.le_of_ble_eq_true rfl) LC_nd ?_
  intro Γ h hR ht
  suffices K : Gq Γ ω LC eI 0 [(0, .ref (th ω 0 0)), (1, .int a1)] [] M (m_X5_ranked a1 M) from K (r, M') hm ht
  unfold m_X5_ranked
  refine g_iload_n h 1 dX5_ranked_0 rfl rfl ?_
  refine g_if_ge h 7 dX5_ranked_1 (by decide) (fun hc1 => ?_) (fun hc1 => ?_)
  · skip
    refine g_aload_n h 0 dX5_ranked_7 rfl rfl ?_
    refine g_getR h (index := 10) (j := 0) iC_0_0 (C := RX5) (T := TX5) (N := 8) rfl n_X5_ranked_5 (by decide) rfl (by decide +kernel) dX5_ranked_8 ?_
    refine g_iload_n h 1 dX5_ranked_11 rfl rfl ?_
    refine g_callI h (As := [.int a1]) (fun t => uM M 1 t) (fun r t hG => MI_self (c_X4_conkerAtRank l ω 1 kS1 M _ a1 hG)) (inS kS1 0 (by decide)) (C := RX4) (T := TX4) (N := 13) rfl 1 rfl gX5_ranked_X4_conkerAtRank rfl rfl rfl (by decide +kernel) (by decide) (st0 := _) rfl (Nat.le_of_ble_eq_true rfl) dX5_ranked_12 (fun r2 M3 => ?_)
    refine g_nm (fun M4 => ?_)
    exact g_iret hR rfl dX5_ranked_15
  · skip
    refine g_bipush h (-2) dX5_ranked_4 (by decide) ?_
    exact g_iret hR rfl dX5_ranked_6
theorem n_X5_restore_5 : ∀ w ∈ wsX50, w ∈ wsX5_restore := by decide +kernel
set_option maxHeartbeats 4000000 in
set_option maxRecDepth 100000 in
theorem c_X5_restore (l : Launch) (ω : Wd)  (M : Mm) {r : Int32} {M' : Mm} (hm : m_X5_restore M = some (r, M')) : MI l yX5_restore wsX5_restore ⟨3, 0, 0, 82⟩ ω LC [.ref (th ω 0 0)] M r M' := by
  refine met_i (cc := cX5_restore) (maxL := 1) (ty := .int) (by decide +kernel) rfl (Nat.le_of_ble_eq_true rfl) LC_nd ?_
  intro Γ h hR ht
  suffices K : Gq Γ ω LC eI 0 [(0, .ref (th ω 0 0))] [] M (m_X5_restore M) from K (r, M') hm ht
  unfold m_X5_restore
  refine g_aload_n h 0 dX5_restore_0 rfl rfl ?_
  refine g_getI h (v := M 0 0 7) rfl (index := 50) (j := 7) iC_0_0 (C := RX5) (T := TX5) (N := 8) rfl n_X5_restore_5 (by decide) rfl (by decide +kernel) dX5_restore_1 ?_
  refine g_ni (fun v1 => ?_)
  refine g_if_ne h 10 dX5_restore_4 (by decide) (fun hc2 => ?_) (fun hc2 => ?_)
  · skip
    refine g_bipush h (-4) dX5_restore_7 (by decide) ?_
    exact g_iret hR rfl dX5_restore_9
  · skip
    refine g_aload_n h 0 dX5_restore_10 rfl rfl ?_
    refine g_getR h (index := 25) (j := 3) iC_0_0 (C := RX5) (T := TX5) (N := 8) rfl n_X5_restore_5 (by decide) rfl (by decide +kernel) dX5_restore_11 ?_
    refine g_aload_n h 0 dX5_restore_14 rfl rfl ?_
    refine g_getR h (index := 10) (j := 0) iC_0_0 (C := RX5) (T := TX5) (N := 8) rfl n_X5_restore_5 (by decide) rfl (by decide +kernel) dX5_restore_15 ?_
    refine g_callV h (As := [.ref (th ω 1 0)]) (fun t => t) (fun r t hG => c_X1_keep l ω _ hG) iC_12_0 (C := RX1) (T := TX1) (N := 2) rfl 1 rfl gX5_restore_X1_keep rfl rfl rfl (by decide +kernel) (by decide) (st0 := _) rfl (Nat.le_of_ble_eq_true rfl) dX5_restore_18 (fun r3 M4 => ?_)
    refine g_aload_n h 0 dX5_restore_21 rfl rfl ?_
    refine g_getR h (index := 10) (j := 0) iC_0_0 (C := RX5) (T := TX5) (N := 8) rfl n_X5_restore_5 (by decide) rfl (by decide +kernel) dX5_restore_22 ?_
    refine g_aload_n h 0 dX5_restore_25 rfl rfl ?_
    refine g_getR h (index := 16) (j := 1) iC_0_0 (C := RX5) (T := TX5) (N := 8) rfl n_X5_restore_5 (by decide) rfl (by decide +kernel) dX5_restore_26 ?_
    refine g_callV h (As := [.ref (th ω 2 0)]) (fun t => t) (fun r t hG => c_X4_copyFrom l ω 1 2 kS1 kS2 _ hG) (inS kS1 0 (by decide)) (C := RX4) (T := TX4) (N := 13) rfl 1 rfl gX5_restore_X4_copyFrom rfl rfl rfl (by decide +kernel) (by decide) (st0 := _) rfl (Nat.le_of_ble_eq_true rfl) dX5_restore_29 (fun r5 M6 => ?_)
    refine g_aload_n h 0 dX5_restore_32 rfl rfl ?_
    refine g_getR h (index := 10) (j := 0) iC_0_0 (C := RX5) (T := TX5) (N := 8) rfl n_X5_restore_5 (by decide) rfl (by decide +kernel) dX5_restore_33 ?_
    refine g_iconst h 0 dX5_restore_36 (by decide) ?_
    refine g_iconst h (-1) dX5_restore_37 (by decide) ?_
    refine g_callI h (As := [.int 0, .int (-1)]) (fun t => uM M6 1 t) (fun r t hG => MI_self (c_X4_conkersBeing l ω 1 kS1 M6 _ 0 (-1) hG)) (inS kS1 0 (by decide)) (C := RX4) (T := TX4) (N := 13) rfl 2 rfl gX5_restore_X4_conkersBeing rfl rfl rfl (by decide +kernel) (by decide) (st0 := _) rfl (Nat.le_of_ble_eq_true rfl) dX5_restore_38 (fun r7 M8 => ?_)
    refine g_nm (fun M9 => ?_)
    exact g_iret hR rfl dX5_restore_41
theorem n_X5_round_2 : ∀ w ∈ wsX20, w ∈ wsX5_round := by decide +kernel
theorem n_X5_round_5 : ∀ w ∈ wsX50, w ∈ wsX5_round := by decide +kernel
set_option maxHeartbeats 4000000 in
set_option maxRecDepth 100000 in
theorem b_X5_round_120 {Γ : Cx} {l : Launch} {ω : Wd}  (h : CxOk Γ l ⟨5, 0, 0, 120⟩ 5 ω LC cX5_round yX5_round.cls wsX5_round) (hR : RetI Γ ω LC cX5_round .int) : ∀ (b2 : Int32) (M : Mm), Gq Γ ω LC eI 120 [(2, .int b2)] [] M (m_X5_round_120 b2 M) := by
  intro b2 M
  unfold m_X5_round_120
  refine g_iload_n h 0 dX5_round_120 rfl rfl ?_
  exact g_iret hR rfl dX5_round_121
set_option maxHeartbeats 4000000 in
set_option maxRecDepth 100000 in
theorem b_X5_round_45 {Γ : Cx} {l : Launch} {ω : Wd}  (h : CxOk Γ l ⟨5, 0, 0, 120⟩ 5 ω LC cX5_round yX5_round.cls wsX5_round) (hR : RetI Γ ω LC cX5_round .int) : ∀ (n : Nat) (b2 : Int32) (M : Mm), Gq Γ ω LC eI 45 [(0, .ref (th ω 0 0)), (2, .int b2)] [] M (m_X5_round_45 n b2 M) := by
  intro n
  induction n with
  | zero =>
    intro b2 M
    rw [m_X5_round_45.eq_1]
    exact g_none
  | succ n ih =>
    intro b2 M
    rw [m_X5_round_45.eq_2]
    refine g_iload_n h 1 dX5_round_45 rfl rfl ?_
    refine g_bipush h 6 dX5_round_46 (by decide) ?_
    refine g_icmp_ge h 120 dX5_round_48 (by decide) (fun hc1 => ?_) (fun hc1 => ?_)
    · skip
      refine g_sub (lv' := [(2, .int b2)]) [1] rfl ?_
      exact b_X5_round_120 h hR _ _
    · skip
      refine g_aload_n h 0 dX5_round_51 rfl rfl ?_
      refine g_getR h (index := 46) (j := 6) iC_0_0 (C := RX5) (T := TX5) (N := 8) rfl n_X5_round_5 (by decide) rfl (by decide +kernel) dX5_round_52 ?_
      refine g_getI h (v := M 11 0 1) rfl (index := 128) (j := 1) iC_11_0 (C := RX2) (T := TX2) (N := 2) rfl n_X5_round_2 (by decide) rfl (by decide +kernel) dX5_round_55 ?_
      refine g_ni (fun v2 => ?_)
      refine g_iconst h 2 dX5_round_58 (by decide) ?_
      refine g_icmp_lt h 120 dX5_round_59 (by decide) (fun hc3 => ?_) (fun hc3 => ?_)
      · skip
        refine g_sub (lv' := [(2, .int b2)]) [1] rfl ?_
        exact b_X5_round_120 h hR _ _
      · skip
        refine g_aload_n h 0 dX5_round_62 rfl rfl ?_
        refine g_getR h (index := 46) (j := 6) iC_0_0 (C := RX5) (T := TX5) (N := 8) rfl n_X5_round_5 (by decide) rfl (by decide +kernel) dX5_round_63 ?_
        refine g_iconst h 1 dX5_round_66 (by decide) ?_
        refine g_aload_n h 0 dX5_round_67 rfl rfl ?_
        refine g_getR h (index := 39) (j := 5) iC_0_0 (C := RX5) (T := TX5) (N := 8) rfl n_X5_round_5 (by decide) rfl (by decide +kernel) dX5_round_68 ?_
        refine g_callI h (As := []) (fun t => uM M 10 t) (fun r t hG => MI_self (c_X0_next l ω M _ hG)) iC_10_0 (C := RX0) (T := TX0) (N := 1) rfl 0 rfl gX5_round_X0_next rfl rfl rfl (by decide +kernel) (by decide) (st0 := _) rfl (Nat.le_of_ble_eq_true rfl) dX5_round_71 (fun r4 M5 => ?_)
        refine g_nm (fun M6 => ?_)
        refine g_aload_n h 0 dX5_round_74 rfl rfl ?_
        refine g_getR h (index := 46) (j := 6) iC_0_0 (C := RX5) (T := TX5) (N := 8) rfl n_X5_round_5 (by decide) rfl (by decide +kernel) dX5_round_75 ?_
        refine g_getI h (v := M6 11 0 1) rfl (index := 128) (j := 1) iC_11_0 (C := RX2) (T := TX2) (N := 2) rfl n_X5_round_2 (by decide) rfl (by decide +kernel) dX5_round_78 ?_
        refine g_ni (fun v7 => ?_)
        refine g_iconst h 1 dX5_round_81 (by decide) ?_
        refine g_isub h dX5_round_82 ?_
        refine g_irem h dX5_round_83 ?_
        refine g_iadd h dX5_round_84 ?_
        refine g_callI h (As := [.int (1 + (r4 - r4 / (v7 - 1) * (v7 - 1)))]) (fun t => uM M6 11 t) (fun r t hG => MI_self (c_X2_takeOut l ω M6 _ (1 + (r4 - r4 / (v7 - 1) * (v7 - 1))) hG)) iC_11_0 (C := RX2) (T := TX2) (N := 2) rfl 1 rfl gX5_round_X2_takeOut rfl rfl rfl (by decide +kernel) (by decide) (st0 := _) rfl (Nat.le_of_ble_eq_true rfl) dX5_round_85 (fun r8 M9 => ?_)
        refine g_nm (fun M10 => ?_)
        refine g_istore_n h rfl (lv' := [(3, .int r8), (0, .ref (th ω 0 0)), (2, .int b2)]) dX5_round_88 (by decide) [0, 1, 2] rfl ?_
        refine g_aload_n h 1 dX5_round_89 rfl rfl ?_
        refine g_getR h (index := 46) (j := 6) iC_0_0 (C := RX5) (T := TX5) (N := 8) rfl n_X5_round_5 (by decide) rfl (by decide +kernel) dX5_round_90 ?_
        refine g_iconst h 0 dX5_round_93 (by decide) ?_
        refine g_callI h (As := [.int 0]) (fun t => uM M10 11 t) (fun r t hG => MI_self (c_X2_takeOut l ω M10 _ 0 hG)) iC_11_0 (C := RX2) (T := TX2) (N := 2) rfl 1 rfl gX5_round_X2_takeOut rfl rfl rfl (by decide +kernel) (by decide) (st0 := _) rfl (Nat.le_of_ble_eq_true rfl) dX5_round_94 (fun r11 M12 => ?_)
        refine g_nm (fun M13 => ?_)
        refine g_istore h (lv' := [(4, .int r11), (3, .int r8), (0, .ref (th ω 0 0)), (2, .int b2)]) dX5_round_97 (by decide) [0, 1, 2, 3] rfl ?_
        refine g_aload_n h 2 dX5_round_99 rfl rfl ?_
        refine g_getR h (index := 10) (j := 0) iC_0_0 (C := RX5) (T := TX5) (N := 8) rfl n_X5_round_5 (by decide) rfl (by decide +kernel) dX5_round_100 ?_
        refine g_iload h 0 dX5_round_103 rfl ?_
        refine g_iload_n h 1 dX5_round_105 rfl rfl ?_
        refine g_aload_n h 2 dX5_round_106 rfl rfl ?_
        refine g_getR h (index := 39) (j := 5) iC_0_0 (C := RX5) (T := TX5) (N := 8) rfl n_X5_round_5 (by decide) rfl (by decide +kernel) dX5_round_107 ?_
        refine g_callI h (As := [.int r11, .int r8, .ref (th ω 10 0)]) (fun t => t) (fun r t hG => c_X4_fight l ω 1 kS1 _ r11 r8 hG) (inS kS1 0 (by decide)) (C := RX4) (T := TX4) (N := 13) rfl 3 rfl gX5_round_X4_fight rfl rfl rfl (by decide +kernel) (by decide) (st0 := _) rfl (Nat.le_of_ble_eq_true rfl) dX5_round_110 (fun r14 M15 => ?_)
        refine g_pop h dX5_round_113 rfl ?_
        refine g_iinc h (b2 + 1) (lv' := [(2, .int (b2 + 1)), (4, .int r11), (3, .int r8), (0, .ref (th ω 0 0))]) dX5_round_114 3 rfl (congrArg (fun z => b2 + z) (by decide)) (by decide) [0, 1, 2, 3] rfl ?_
        refine g_goto h (tgt := 45) dX5_round_117 (by decide) ?_
        refine g_sub (lv' := [(0, .ref (th ω 0 0)), (2, .int (b2 + 1))]) [3, 0] rfl ?_
        exact ih _ _
set_option maxHeartbeats 4000000 in
set_option maxRecDepth 100000 in
theorem c_X5_round (l : Launch) (ω : Wd)  (M : Mm) (a1 : Int32) {r : Int32} {M' : Mm} (hm : m_X5_round a1 M = some (r, M')) : MI l yX5_round wsX5_round ⟨5, 0, 0, 120⟩ ω LC [.ref (th ω 0 0), .int a1] M r M' := by
  refine met_i (cc := cX5_round) (maxL := 5) (ty := .int) (by decide +kernel) rfl (Nat.le_of_ble_eq_true rfl) LC_nd ?_
  intro Γ h hR ht
  suffices K : Gq Γ ω LC eI 0 [(0, .ref (th ω 0 0)), (1, .int a1)] [] M (m_X5_round a1 M) from K (r, M') hm ht
  unfold m_X5_round
  refine g_iload_n h 1 dX5_round_0 rfl rfl ?_
  refine g_iconst h 0 dX5_round_1 (by decide) ?_
  refine g_ldc h 65535 dX5_round_2 (by decide +kernel) ?_
  refine g_callP h (As := [.int a1, .int 0, .int 65535]) (fun r t hG => c_X5_isWithin l ω M00 a1 0 65535 hG) 3 rfl gX5_round_X5_isWithin rfl rfl rfl (by decide +kernel) (by decide) (st0 := _) rfl (Nat.le_of_ble_eq_true rfl) dX5_round_4 (fun r1 => ?_)
  refine g_if_ne h 13 dX5_round_7 (by decide) (fun hc2 => ?_) (fun hc2 => ?_)
  · skip
    refine g_bipush h (-2) dX5_round_10 (by decide) ?_
    exact g_iret hR rfl dX5_round_12
  · skip
    refine g_aload_n h 0 dX5_round_13 rfl rfl ?_
    refine g_getR h (index := 25) (j := 3) iC_0_0 (C := RX5) (T := TX5) (N := 8) rfl n_X5_round_5 (by decide) rfl (by decide +kernel) dX5_round_14 ?_
    refine g_aload_n h 0 dX5_round_17 rfl rfl ?_
    refine g_getR h (index := 10) (j := 0) iC_0_0 (C := RX5) (T := TX5) (N := 8) rfl n_X5_round_5 (by decide) rfl (by decide +kernel) dX5_round_18 ?_
    refine g_callV h (As := [.ref (th ω 1 0)]) (fun t => t) (fun r t hG => c_X1_keep l ω _ hG) iC_12_0 (C := RX1) (T := TX1) (N := 2) rfl 1 rfl gX5_round_X1_keep rfl rfl rfl (by decide +kernel) (by decide) (st0 := _) rfl (Nat.le_of_ble_eq_true rfl) dX5_round_21 (fun r3 M4 => ?_)
    refine g_aload_n h 0 dX5_round_24 rfl rfl ?_
    refine g_getR h (index := 39) (j := 5) iC_0_0 (C := RX5) (T := TX5) (N := 8) rfl n_X5_round_5 (by decide) rfl (by decide +kernel) dX5_round_25 ?_
    refine g_iload_n h 1 dX5_round_28 rfl rfl ?_
    refine g_callV h (As := [.int a1]) (fun t => uM M4 10 t) (fun r t hG => MV_self (c_X0_begin l ω M4 _ a1 hG)) iC_10_0 (C := RX0) (T := TX0) (N := 1) rfl 1 rfl gX5_round_X0_begin rfl rfl rfl (by decide +kernel) (by decide) (st0 := _) rfl (Nat.le_of_ble_eq_true rfl) dX5_round_29 (fun r5 M6 => ?_)
    refine g_nm (fun M7 => ?_)
    refine g_aload_n h 0 dX5_round_32 rfl rfl ?_
    refine g_getR h (index := 46) (j := 6) iC_0_0 (C := RX5) (T := TX5) (N := 8) rfl n_X5_round_5 (by decide) rfl (by decide +kernel) dX5_round_33 ?_
    refine g_aload_n h 0 dX5_round_36 rfl rfl ?_
    refine g_getR h (index := 10) (j := 0) iC_0_0 (C := RX5) (T := TX5) (N := 8) rfl n_X5_round_5 (by decide) rfl (by decide +kernel) dX5_round_37 ?_
    refine g_callV h (As := [.ref (th ω 1 0)]) (fun t => t) (fun r t hG => c_X2_lineUp l ω _ hG) iC_11_0 (C := RX2) (T := TX2) (N := 2) rfl 1 rfl gX5_round_X2_lineUp rfl rfl rfl (by decide +kernel) (by decide) (st0 := _) rfl (Nat.le_of_ble_eq_true rfl) dX5_round_40 (fun r8 M9 => ?_)
    refine g_iconst h 0 dX5_round_43 (by decide) ?_
    refine g_istore_n h rfl (lv' := [(2, .int 0), (0, .ref (th ω 0 0)), (1, .int a1)]) dX5_round_44 (by decide) [0, 1, 2] rfl ?_
    refine g_sub (lv' := [(0, .ref (th ω 0 0)), (2, .int 0)]) [1, 0] rfl ?_
    exact b_X5_round_45 h hR fu _ _
theorem n_X5_run_5 : ∀ w ∈ wsX50, w ∈ wsX5_run := by decide +kernel
set_option maxHeartbeats 4000000 in
set_option maxRecDepth 100000 in
theorem b_X5_run_79 {Γ : Cx} {l : Launch} {ω : Wd}  (h : CxOk Γ l ⟨5, 0, 0, 114⟩ 3 ω LC cX5_run yX5_run.cls wsX5_run) (hR : RetI Γ ω LC cX5_run .int) : ∀ (b2 : Int32) (M : Mm), Gq Γ ω LC eI 79 [(2, .int b2)] [] M (m_X5_run_79 b2 M) := by
  intro b2 M
  unfold m_X5_run_79
  refine g_iload_n h 0 dX5_run_79 rfl rfl ?_
  exact g_iret hR rfl dX5_run_80
set_option maxHeartbeats 4000000 in
set_option maxRecDepth 100000 in
theorem b_X5_run_39 {Γ : Cx} {l : Launch} {ω : Wd}  (h : CxOk Γ l ⟨5, 0, 0, 114⟩ 3 ω LC cX5_run yX5_run.cls wsX5_run) (hR : RetI Γ ω LC cX5_run .int) : ∀ (n : Nat) (b2 : Int32) (M : Mm), Gq Γ ω LC eI 39 [(0, .ref (th ω 0 0)), (2, .int b2)] [] M (m_X5_run_39 n b2 M) := by
  intro n
  induction n with
  | zero =>
    intro b2 M
    rw [m_X5_run_39.eq_1]
    exact g_none
  | succ n ih =>
    intro b2 M
    rw [m_X5_run_39.eq_2]
    refine g_iload_n h 1 dX5_run_39 rfl rfl ?_
    refine g_bipush h 60 dX5_run_40 (by decide) ?_
    refine g_icmp_ge h 79 dX5_run_42 (by decide) (fun hc1 => ?_) (fun hc1 => ?_)
    · skip
      refine g_sub (lv' := [(2, .int b2)]) [1] rfl ?_
      exact b_X5_run_79 h hR _ _
    · skip
      refine g_aload_n h 0 dX5_run_45 rfl rfl ?_
      refine g_getR h (index := 32) (j := 4) iC_0_0 (C := RX5) (T := TX5) (N := 8) rfl n_X5_run_5 (by decide) rfl (by decide +kernel) dX5_run_46 ?_
      refine g_callI h (As := []) (fun t => uM M 9 t) (fun r t hG => MI_self (c_X3_readOrder l ω M _ hG)) iC_9_0 (C := RX3) (T := TX3) (N := 7) rfl 0 rfl gX5_run_X3_readOrder rfl rfl rfl (by decide +kernel) (by decide) (st0 := _) rfl (Nat.le_of_ble_eq_true rfl) dX5_run_49 (fun r2 M3 => ?_)
      refine g_nm (fun M4 => ?_)
      refine g_if_eq h 79 dX5_run_52 (by decide) (fun hc5 => ?_) (fun hc5 => ?_)
      · skip
        refine g_sub (lv' := [(2, .int b2)]) [1] rfl ?_
        exact b_X5_run_79 h hR _ _
      · skip
        refine g_aload_n h 0 dX5_run_55 rfl rfl ?_
        refine g_callI h (As := []) (fun t => t) (fun r t hG => c_X5_carryOutOrder l ω _ hG) iC_0_0 (C := RX5) (T := TX5) (N := 8) rfl 0 rfl gX5_run_X5_carryOutOrder rfl rfl rfl (by decide +kernel) (by decide) (st0 := _) rfl (Nat.le_of_ble_eq_true rfl) dX5_run_56 (fun r6 M7 => ?_)
        refine g_if_lt h 79 dX5_run_59 (by decide) (fun hc8 => ?_) (fun hc8 => ?_)
        · skip
          refine g_sub (lv' := [(2, .int b2)]) [1] rfl ?_
          exact b_X5_run_79 h hR _ _
        · skip
          refine g_iinc h (b2 + 1) (lv' := [(2, .int (b2 + 1)), (0, .ref (th ω 0 0))]) dX5_run_62 1 rfl (congrArg (fun z => b2 + z) (by decide)) (by decide) [0, 1] rfl ?_
          refine g_aload_n h 1 dX5_run_65 rfl rfl ?_
          refine g_getR h (index := 32) (j := 4) iC_0_0 (C := RX5) (T := TX5) (N := 8) rfl n_X5_run_5 (by decide) rfl (by decide +kernel) dX5_run_66 ?_
          refine g_bipush h 44 dX5_run_69 (by decide) ?_
          refine g_callI h (As := [.int 44]) (fun t => uM M7 9 t) (fun r t hG => MI_self (c_X3_take l ω M7 _ 44 hG)) iC_9_0 (C := RX3) (T := TX3) (N := 7) rfl 1 rfl gX5_run_X3_take rfl rfl rfl (by decide +kernel) (by decide) (st0 := _) rfl (Nat.le_of_ble_eq_true rfl) dX5_run_71 (fun r9 M10 => ?_)
          refine g_nm (fun M11 => ?_)
          refine g_if_ne h 39 dX5_run_74 (by decide) (fun hc12 => ?_) (fun hc12 => ?_)
          · skip
            refine g_iload_n h 0 dX5_run_77 rfl rfl ?_
            exact g_iret hR rfl dX5_run_78
          · skip
            refine g_sub (lv' := [(0, .ref (th ω 0 0)), (2, .int (b2 + 1))]) [1, 0] rfl ?_
            exact ih _ _
set_option maxHeartbeats 4000000 in
set_option maxRecDepth 100000 in
theorem c_X5_run (l : Launch) (ω : Wd)  (M : Mm) {r : Int32} {M' : Mm} (hm : m_X5_run M = some (r, M')) : MI l yX5_run wsX5_run ⟨5, 0, 0, 114⟩ ω LC [.ref (th ω 0 0)] M r M' := by
  refine met_i (cc := cX5_run) (maxL := 3) (ty := .int) (by decide +kernel) rfl (Nat.le_of_ble_eq_true rfl) LC_nd ?_
  intro Γ h hR ht
  suffices K : Gq Γ ω LC eI 0 [(0, .ref (th ω 0 0))] [] M (m_X5_run M) from K (r, M') hm ht
  unfold m_X5_run
  refine g_aload_n h 0 dX5_run_0 rfl rfl ?_
  refine g_getR h (index := 32) (j := 4) iC_0_0 (C := RX5) (T := TX5) (N := 8) rfl n_X5_run_5 (by decide) rfl (by decide +kernel) dX5_run_1 ?_
  refine g_callI h (As := []) (fun t => uM M 9 t) (fun r t hG => MI_self (c_X3_findFault l ω M _ hG)) iC_9_0 (C := RX3) (T := TX3) (N := 7) rfl 0 rfl gX5_run_X3_findFault rfl rfl rfl (by decide +kernel) (by decide) (st0 := _) rfl (Nat.le_of_ble_eq_true rfl) dX5_run_4 (fun r1 M2 => ?_)
  refine g_nm (fun M3 => ?_)
  refine g_istore_n h rfl (lv' := [(1, .int r1), (0, .ref (th ω 0 0))]) dX5_run_7 (by decide) [0, 1] rfl ?_
  refine g_iload_n h 0 dX5_run_8 rfl rfl ?_
  refine g_bipush h (-5) dX5_run_9 (by decide) ?_
  refine g_icmp_eq h 19 dX5_run_11 (by decide) (fun hc4 => ?_) (fun hc4 => ?_)
  · skip
    refine g_aload_n h 1 dX5_run_19 rfl rfl ?_
    refine g_getR h (index := 25) (j := 3) iC_0_0 (C := RX5) (T := TX5) (N := 8) rfl n_X5_run_5 (by decide) rfl (by decide +kernel) dX5_run_20 ?_
    refine g_aload_n h 1 dX5_run_23 rfl rfl ?_
    refine g_getR h (index := 10) (j := 0) iC_0_0 (C := RX5) (T := TX5) (N := 8) rfl n_X5_run_5 (by decide) rfl (by decide +kernel) dX5_run_24 ?_
    refine g_callV h (As := [.ref (th ω 1 0)]) (fun t => t) (fun r t hG => c_X1_keep l ω _ hG) iC_12_0 (C := RX1) (T := TX1) (N := 2) rfl 1 rfl gX5_run_X1_keep rfl rfl rfl (by decide +kernel) (by decide) (st0 := _) rfl (Nat.le_of_ble_eq_true rfl) dX5_run_27 (fun r5 M6 => ?_)
    refine g_aload_n h 1 dX5_run_30 rfl rfl ?_
    refine g_getR h (index := 32) (j := 4) iC_0_0 (C := RX5) (T := TX5) (N := 8) rfl n_X5_run_5 (by decide) rfl (by decide +kernel) dX5_run_31 ?_
    refine g_callV h (As := []) (fun t => uM M6 9 t) (fun r t hG => MV_self (c_X3_rewind l ω M6 _ hG)) iC_9_0 (C := RX3) (T := TX3) (N := 7) rfl 0 rfl gX5_run_X3_rewind rfl rfl rfl (by decide +kernel) (by decide) (st0 := _) rfl (Nat.le_of_ble_eq_true rfl) dX5_run_34 (fun r7 M8 => ?_)
    refine g_nm (fun M9 => ?_)
    refine g_iconst h 0 dX5_run_37 (by decide) ?_
    refine g_istore_n h rfl (lv' := [(2, .int 0), (1, .int r1), (0, .ref (th ω 0 0))]) dX5_run_38 (by decide) [0, 1, 2] rfl ?_
    refine g_sub (lv' := [(0, .ref (th ω 0 0)), (2, .int 0)]) [2, 0] rfl ?_
    exact b_X5_run_39 h hR fu _ _
  · skip
    refine g_bipush h (-100) dX5_run_14 (by decide) ?_
    refine g_iload_n h 0 dX5_run_16 rfl rfl ?_
    refine g_isub h dX5_run_17 ?_
    exact g_iret hR rfl dX5_run_18
theorem n_X5_save_5 : ∀ w ∈ wsX50, w ∈ wsX5_save := by decide +kernel
set_option maxHeartbeats 4000000 in
set_option maxRecDepth 100000 in
theorem c_X5_save (l : Launch) (ω : Wd)  (M : Mm) {r : Int32} {M' : Mm} (hm : m_X5_save M = some (r, M')) : MI l yX5_save wsX5_save ⟨2, 0, 0, 61⟩ ω LC [.ref (th ω 0 0)] M r M' := by
  refine met_i (cc := cX5_save) (maxL := 1) (ty := .int) (by decide +kernel) rfl (Nat.le_of_ble_eq_true rfl) LC_nd ?_
  intro Γ h hR ht
  suffices K : Gq Γ ω LC eI 0 [(0, .ref (th ω 0 0))] [] M (m_X5_save M) from K (r, M') hm ht
  unfold m_X5_save
  refine g_aload_n h 0 dX5_save_0 rfl rfl ?_
  refine g_getR h (index := 16) (j := 1) iC_0_0 (C := RX5) (T := TX5) (N := 8) rfl n_X5_save_5 (by decide) rfl (by decide +kernel) dX5_save_1 ?_
  refine g_aload_n h 0 dX5_save_4 rfl rfl ?_
  refine g_getR h (index := 10) (j := 0) iC_0_0 (C := RX5) (T := TX5) (N := 8) rfl n_X5_save_5 (by decide) rfl (by decide +kernel) dX5_save_5 ?_
  refine g_callV h (As := [.ref (th ω 1 0)]) (fun t => t) (fun r t hG => c_X4_copyFrom l ω 2 1 kS2 kS1 _ hG) (inS kS2 0 (by decide)) (C := RX4) (T := TX4) (N := 13) rfl 1 rfl gX5_save_X4_copyFrom rfl rfl rfl (by decide +kernel) (by decide) (st0 := _) rfl (Nat.le_of_ble_eq_true rfl) dX5_save_8 (fun r1 M2 => ?_)
  refine g_aload_n h 0 dX5_save_11 rfl rfl ?_
  refine g_iconst h 1 dX5_save_12 (by decide) ?_
  refine g_putI h (x' := wM M2 0 0 7 1) rfl (index := 50) (j := 7) iC_0_0 (C := RX5) (T := TX5) (N := 8) rfl n_X5_save_5 tyX5_ok nmX5 (by decide) rfl (by decide +kernel) rfl (ty := .boolean) (by decide +kernel) rfl (by decide) dX5_save_13 ?_
  refine g_nm (fun M3 => ?_)
  refine g_aload_n h 0 dX5_save_16 rfl rfl ?_
  refine g_getR h (index := 10) (j := 0) iC_0_0 (C := RX5) (T := TX5) (N := 8) rfl n_X5_save_5 (by decide) rfl (by decide +kernel) dX5_save_17 ?_
  refine g_iconst h 0 dX5_save_20 (by decide) ?_
  refine g_iconst h (-1) dX5_save_21 (by decide) ?_
  refine g_callI h (As := [.int 0, .int (-1)]) (fun t => uM M3 1 t) (fun r t hG => MI_self (c_X4_conkersBeing l ω 1 kS1 M3 _ 0 (-1) hG)) (inS kS1 0 (by decide)) (C := RX4) (T := TX4) (N := 13) rfl 2 rfl gX5_save_X4_conkersBeing rfl rfl rfl (by decide +kernel) (by decide) (st0 := _) rfl (Nat.le_of_ble_eq_true rfl) dX5_save_22 (fun r4 M5 => ?_)
  refine g_nm (fun M6 => ?_)
  exact g_iret hR rfl dX5_save_25
