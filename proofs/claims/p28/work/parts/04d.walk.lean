/-! WALKS (written by wip/whole/gen.py): X5_ranked, X5_round, X5_share, X5_stamp, X5_strike, X5_thread, X5_undo, X5_winner, L_low, L_act, L_conkers -/
theorem n_X5_ranked_5 : ∀ w ∈ wsX50, w ∈ wsX5_ranked := by decide +kernel
set_option maxHeartbeats 4000000 in
set_option maxRecDepth 100000 in
theorem c_X5_ranked (l : Launch) (ω : Wd)  (M : Mm) (a1 : Int32) {r : Int32} {M' : Mm} (hm : m_X5_ranked a1 M = some (r, M')) : MI l yX5_ranked wsX5_ranked ⟨2, 0, 0, 47⟩ ω LC [.ref (th ω 0 0), .int a1] M r M' := by
  refine met_i (cc := cX5_ranked) (maxL := 2) (ty := .int) (by decide +kernel) rfl (Nat.le_of_ble_eq_true rfl) LC_nd ?_
  intro Γ h hR ht
  suffices K : Gq 0 Γ ω LC eI 0 [(0, .ref (th ω 0 0)), (1, .int a1)] [] M (m_X5_ranked a1 M) from K (r, M') hm ht (c0 Γ)
  unfold m_X5_ranked
  refine g_iload_n h 1 dX5_ranked_0 rfl rfl ?_
  refine g_if_ge h 7 dX5_ranked_1 (by decide) (fun hc1 => ?_) (fun hc1 => ?_)
  · skip
    refine g_aload_n h 0 dX5_ranked_7 rfl rfl ?_
    refine g_getR h (index := 10) (j := 0) iC_0_0 (C := RX5) (T := TX5) (N := 8) rfl n_X5_ranked_5 (by decide) rfl (by decide +kernel) dX5_ranked_8 ?_
    refine g_iload_n h 1 dX5_ranked_11 rfl rfl ?_
    refine g_callI h (As := [.int a1]) (fun t => uM M 1 t) (fun r t hG => MI_self (c_X4_conkerAtRank l ω 1 kS1 M _ a1 hG)) (inS kS1 0 (by decide)) (C := RX4) (T := TX4) (N := 13) rfl 1 rfl gX5_ranked_X4_conkerAtRank rfl rfl rfl (by decide +kernel) (by decide) (st0 := _) rfl (Nat.le_of_ble_eq_true rfl) dX5_ranked_12 (fun r2 M3 => ?_)
    refine g_nm (fun M4 => ?_)
    exact g_iret hR rfl dX5_ranked_15
  · skip
    refine g_bipush h (-2) dX5_ranked_4 (by decide) ?_
    exact g_iret hR rfl dX5_ranked_6
theorem n_X5_round_2 : ∀ w ∈ wsX20, w ∈ wsX5_round := by decide +kernel
theorem n_X5_round_5 : ∀ w ∈ wsX50, w ∈ wsX5_round := by decide +kernel
set_option maxHeartbeats 4000000 in
set_option maxRecDepth 100000 in
theorem b_X5_round_120 {Γ : Cx} {l : Launch} {ω : Wd}  (h : CxOk Γ l ⟨5, 0, 0, 120⟩ 5 ω LC cX5_round yX5_round.cls wsX5_round) (hR : RetI Γ ω LC cX5_round .int) : ∀ (b2 : Int32) (M : Mm), Gq 0 Γ ω LC eI 120 [(2, .int b2)] [] M (m_X5_round_120 b2 M) := by
  intro b2 M
  unfold m_X5_round_120
  refine g_iload_n h 0 dX5_round_120 rfl rfl ?_
  exact g_iret hR rfl dX5_round_121
set_option maxHeartbeats 4000000 in
set_option maxRecDepth 100000 in
theorem b_X5_round_45 {Γ : Cx} {l : Launch} {ω : Wd}  (h : CxOk Γ l ⟨5, 0, 0, 120⟩ 5 ω LC cX5_round yX5_round.cls wsX5_round) (hR : RetI Γ ω LC cX5_round .int) : ∀ (n : Nat) (b2 : Int32) (M : Mm), Gq 0 Γ ω LC eI 45 [(0, .ref (th ω 0 0)), (2, .int b2)] [] M (m_X5_round_45 n b2 M) := by
  intro n
  induction n with
  | zero =>
    intro b2 M
    rw [m_X5_round_45.eq_1]
    exact g_none
  | succ n ih =>
    intro b2 M
    rw [m_X5_round_45.eq_2]
    refine g_iload_n h 1 dX5_round_45 rfl rfl ?_
    refine g_bipush h 6 dX5_round_46 (by decide) ?_
    refine g_icmp_ge h 120 dX5_round_48 (by decide) (fun hc1 => ?_) (fun hc1 => ?_)
    · skip
      refine g_sub (lv' := [(2, .int b2)]) [1] rfl ?_
      exact b_X5_round_120 h hR _ _
    · skip
      refine g_aload_n h 0 dX5_round_51 rfl rfl ?_
      refine g_getR h (index := 46) (j := 6) iC_0_0 (C := RX5) (T := TX5) (N := 8) rfl n_X5_round_5 (by decide) rfl (by decide +kernel) dX5_round_52 ?_
      refine g_getI h (v := M 11 0 1) rfl (index := 128) (j := 1) iC_11_0 (C := RX2) (T := TX2) (N := 2) rfl n_X5_round_2 (by decide) rfl (by decide +kernel) dX5_round_55 ?_
      refine g_ni (fun v2 => ?_)
      refine g_iconst h 2 dX5_round_58 (by decide) ?_
      refine g_icmp_lt h 120 dX5_round_59 (by decide) (fun hc3 => ?_) (fun hc3 => ?_)
      · skip
        refine g_sub (lv' := [(2, .int b2)]) [1] rfl ?_
        exact b_X5_round_120 h hR _ _
      · skip
        refine g_aload_n h 0 dX5_round_62 rfl rfl ?_
        refine g_getR h (index := 46) (j := 6) iC_0_0 (C := RX5) (T := TX5) (N := 8) rfl n_X5_round_5 (by decide) rfl (by decide +kernel) dX5_round_63 ?_
        refine g_iconst h 1 dX5_round_66 (by decide) ?_
        refine g_aload_n h 0 dX5_round_67 rfl rfl ?_
        refine g_getR h (index := 39) (j := 5) iC_0_0 (C := RX5) (T := TX5) (N := 8) rfl n_X5_round_5 (by decide) rfl (by decide +kernel) dX5_round_68 ?_
        refine g_callI h (As := []) (fun t => uM M 10 t) (fun r t hG => MI_self (c_X0_next l ω M _ hG)) iC_10_0 (C := RX0) (T := TX0) (N := 1) rfl 0 rfl gX5_round_X0_next rfl rfl rfl (by decide +kernel) (by decide) (st0 := _) rfl (Nat.le_of_ble_eq_true rfl) dX5_round_71 (fun r4 M5 => ?_)
        refine g_nm (fun M6 => ?_)
        refine g_aload_n h 0 dX5_round_74 rfl rfl ?_
        refine g_getR h (index := 46) (j := 6) iC_0_0 (C := RX5) (T := TX5) (N := 8) rfl n_X5_round_5 (by decide) rfl (by decide +kernel) dX5_round_75 ?_
        refine g_getI h (v := M6 11 0 1) rfl (index := 128) (j := 1) iC_11_0 (C := RX2) (T := TX2) (N := 2) rfl n_X5_round_2 (by decide) rfl (by decide +kernel) dX5_round_78 ?_
        refine g_ni (fun v7 => ?_)
        refine g_iconst h 1 dX5_round_81 (by decide) ?_
        refine g_isub h dX5_round_82 ?_
        refine g_irem h dX5_round_83 ?_
        refine g_iadd h dX5_round_84 ?_
        refine g_callI h (As := [.int (1 + (r4 - r4 / (v7 - 1) * (v7 - 1)))]) (fun t => uM M6 11 t) (fun r t hG => MI_self (c_X2_takeOut l ω M6 _ (1 + (r4 - r4 / (v7 - 1) * (v7 - 1))) hG)) iC_11_0 (C := RX2) (T := TX2) (N := 2) rfl 1 rfl gX5_round_X2_takeOut rfl rfl rfl (by decide +kernel) (by decide) (st0 := _) rfl (Nat.le_of_ble_eq_true rfl) dX5_round_85 (fun r8 M9 => ?_)
        refine g_nm (fun M10 => ?_)
        refine g_istore_n h rfl (lv' := [(3, .int r8), (0, .ref (th ω 0 0)), (2, .int b2)]) dX5_round_88 (by decide) [0, 1, 2] rfl ?_
        refine g_aload_n h 1 dX5_round_89 rfl rfl ?_
        refine g_getR h (index := 46) (j := 6) iC_0_0 (C := RX5) (T := TX5) (N := 8) rfl n_X5_round_5 (by decide) rfl (by decide +kernel) dX5_round_90 ?_
        refine g_iconst h 0 dX5_round_93 (by decide) ?_
        refine g_callI h (As := [.int 0]) (fun t => uM M10 11 t) (fun r t hG => MI_self (c_X2_takeOut l ω M10 _ 0 hG)) iC_11_0 (C := RX2) (T := TX2) (N := 2) rfl 1 rfl gX5_round_X2_takeOut rfl rfl rfl (by decide +kernel) (by decide) (st0 := _) rfl (Nat.le_of_ble_eq_true rfl) dX5_round_94 (fun r11 M12 => ?_)
        refine g_nm (fun M13 => ?_)
        refine g_istore h (lv' := [(4, .int r11), (3, .int r8), (0, .ref (th ω 0 0)), (2, .int b2)]) dX5_round_97 (by decide) [0, 1, 2, 3] rfl ?_
        refine g_aload_n h 2 dX5_round_99 rfl rfl ?_
        refine g_getR h (index := 10) (j := 0) iC_0_0 (C := RX5) (T := TX5) (N := 8) rfl n_X5_round_5 (by decide) rfl (by decide +kernel) dX5_round_100 ?_
        refine g_iload h 0 dX5_round_103 rfl ?_
        refine g_iload_n h 1 dX5_round_105 rfl rfl ?_
        refine g_aload_n h 2 dX5_round_106 rfl rfl ?_
        refine g_getR h (index := 39) (j := 5) iC_0_0 (C := RX5) (T := TX5) (N := 8) rfl n_X5_round_5 (by decide) rfl (by decide +kernel) dX5_round_107 ?_
        refine g_callI h (As := [.int r11, .int r8, .ref (th ω 10 0)]) (fun t => t) (fun r t hG => c_X4_fight l ω 1 kS1 _ r11 r8 hG) (inS kS1 0 (by decide)) (C := RX4) (T := TX4) (N := 13) rfl 3 rfl gX5_round_X4_fight rfl rfl rfl (by decide +kernel) (by decide) (st0 := _) rfl (Nat.le_of_ble_eq_true rfl) dX5_round_110 (fun r14 M15 => ?_)
        refine g_pop h dX5_round_113 rfl ?_
        refine g_iinc h (b2 + 1) (lv' := [(2, .int (b2 + 1)), (4, .int r11), (3, .int r8), (0, .ref (th ω 0 0))]) dX5_round_114 3 rfl (congrArg (fun z => b2 + z) (by decide)) (by decide) [0, 1, 2, 3] rfl ?_
        refine g_goto h (tgt := 45) dX5_round_117 (by decide) ?_
        refine g_sub (lv' := [(0, .ref (th ω 0 0)), (2, .int (b2 + 1))]) [3, 0] rfl ?_
        exact ih _ _
set_option maxHeartbeats 4000000 in
set_option maxRecDepth 100000 in
theorem c_X5_round (l : Launch) (ω : Wd)  (M : Mm) (a1 : Int32) {r : Int32} {M' : Mm} (hm : m_X5_round a1 M = some (r, M')) : MI l yX5_round wsX5_round ⟨5, 0, 0, 120⟩ ω LC [.ref (th ω 0 0), .int a1] M r M' := by
  refine met_i (cc := cX5_round) (maxL := 5) (ty := .int) (by decide +kernel) rfl (Nat.le_of_ble_eq_true rfl) LC_nd ?_
  intro Γ h hR ht
  suffices K : Gq 0 Γ ω LC eI 0 [(0, .ref (th ω 0 0)), (1, .int a1)] [] M (m_X5_round a1 M) from K (r, M') hm ht (c0 Γ)
  unfold m_X5_round
  refine g_iload_n h 1 dX5_round_0 rfl rfl ?_
  refine g_iconst h 0 dX5_round_1 (by decide) ?_
  refine g_ldc h 65535 dX5_round_2 (by decide +kernel) ?_
  refine g_callP h (As := [.int a1, .int 0, .int 65535]) (fun r t hG => c_X5_isWithin l ω M00 a1 0 65535 hG) 3 rfl gX5_round_X5_isWithin rfl rfl rfl (by decide +kernel) (by decide) (st0 := _) rfl (Nat.le_of_ble_eq_true rfl) dX5_round_4 (fun r1 => ?_)
  refine g_if_ne h 13 dX5_round_7 (by decide) (fun hc2 => ?_) (fun hc2 => ?_)
  · skip
    refine g_bipush h (-2) dX5_round_10 (by decide) ?_
    exact g_iret hR rfl dX5_round_12
  · skip
    refine g_aload_n h 0 dX5_round_13 rfl rfl ?_
    refine g_getR h (index := 25) (j := 3) iC_0_0 (C := RX5) (T := TX5) (N := 8) rfl n_X5_round_5 (by decide) rfl (by decide +kernel) dX5_round_14 ?_
    refine g_aload_n h 0 dX5_round_17 rfl rfl ?_
    refine g_getR h (index := 10) (j := 0) iC_0_0 (C := RX5) (T := TX5) (N := 8) rfl n_X5_round_5 (by decide) rfl (by decide +kernel) dX5_round_18 ?_
    refine g_callV h (As := [.ref (th ω 1 0)]) (fun t => t) (fun r t hG => c_X1_keep l ω _ hG) iC_12_0 (C := RX1) (T := TX1) (N := 2) rfl 1 rfl gX5_round_X1_keep rfl rfl rfl (by decide +kernel) (by decide) (st0 := _) rfl (Nat.le_of_ble_eq_true rfl) dX5_round_21 (fun r3 M4 => ?_)
    refine g_aload_n h 0 dX5_round_24 rfl rfl ?_
    refine g_getR h (index := 39) (j := 5) iC_0_0 (C := RX5) (T := TX5) (N := 8) rfl n_X5_round_5 (by decide) rfl (by decide +kernel) dX5_round_25 ?_
    refine g_iload_n h 1 dX5_round_28 rfl rfl ?_
    refine g_callV h (As := [.int a1]) (fun t => uM M4 10 t) (fun r t hG => MV_self (c_X0_begin l ω M4 _ a1 hG)) iC_10_0 (C := RX0) (T := TX0) (N := 1) rfl 1 rfl gX5_round_X0_begin rfl rfl rfl (by decide +kernel) (by decide) (st0 := _) rfl (Nat.le_of_ble_eq_true rfl) dX5_round_29 (fun r5 M6 => ?_)
    refine g_nm (fun M7 => ?_)
    refine g_aload_n h 0 dX5_round_32 rfl rfl ?_
    refine g_getR h (index := 46) (j := 6) iC_0_0 (C := RX5) (T := TX5) (N := 8) rfl n_X5_round_5 (by decide) rfl (by decide +kernel) dX5_round_33 ?_
    refine g_aload_n h 0 dX5_round_36 rfl rfl ?_
    refine g_getR h (index := 10) (j := 0) iC_0_0 (C := RX5) (T := TX5) (N := 8) rfl n_X5_round_5 (by decide) rfl (by decide +kernel) dX5_round_37 ?_
    refine g_callV h (As := [.ref (th ω 1 0)]) (fun t => t) (fun r t hG => c_X2_lineUp l ω _ hG) iC_11_0 (C := RX2) (T := TX2) (N := 2) rfl 1 rfl gX5_round_X2_lineUp rfl rfl rfl (by decide +kernel) (by decide) (st0 := _) rfl (Nat.le_of_ble_eq_true rfl) dX5_round_40 (fun r8 M9 => ?_)
    refine g_iconst h 0 dX5_round_43 (by decide) ?_
    refine g_istore_n h rfl (lv' := [(2, .int 0), (0, .ref (th ω 0 0)), (1, .int a1)]) dX5_round_44 (by decide) [0, 1, 2] rfl ?_
    refine g_sub (lv' := [(0, .ref (th ω 0 0)), (2, .int 0)]) [1, 0] rfl ?_
    exact b_X5_round_45 h hR fu _ _
theorem n_X5_share_5 : ∀ w ∈ wsX50, w ∈ wsX5_share := by decide +kernel
set_option maxHeartbeats 4000000 in
set_option maxRecDepth 100000 in
theorem b_X5_share_21 {Γ : Cx} {l : Launch} {ω : Wd}  (h : CxOk Γ l ⟨2, 0, 0, 45⟩ 3 ω LC cX5_share yX5_share.cls wsX5_share) (hR : RetF Γ ω LC cX5_share) : ∀ (M : Mm), Gq 0 Γ ω LC eI 21 [] [] M (m_X5_share_21 M) := by
  intro M
  unfold m_X5_share_21
  refine g_fconst0 h dX5_share_21 ?_
  exact g_fret hR dX5_share_22
set_option maxHeartbeats 4000000 in
set_option maxRecDepth 100000 in
theorem c_X5_share (l : Launch) (ω : Wd)  (M : Mm) (a1 : Int32) {r : Int32} {M' : Mm} (hm : m_X5_share a1 M = some (r, M')) : MF l yX5_share wsX5_share ⟨2, 0, 0, 45⟩ ω LC [.ref (th ω 0 0), .int a1] M r M' := by
  refine met_f (cc := cX5_share) (maxL := 3) (r := r) (by decide +kernel) rfl (Nat.le_of_ble_eq_true rfl) LC_nd ?_
  intro Γ h hR ht
  suffices K : Gq 0 Γ ω LC eI 0 [(0, .ref (th ω 0 0)), (1, .int a1)] [] M (m_X5_share a1 M) from K (r, M') hm ht (c0 Γ)
  unfold m_X5_share
  refine g_aload_n h 0 dX5_share_0 rfl rfl ?_
  refine g_getR h (index := 10) (j := 0) iC_0_0 (C := RX5) (T := TX5) (N := 8) rfl n_X5_share_5 (by decide) rfl (by decide +kernel) dX5_share_1 ?_
  refine g_iconst h (-1) dX5_share_4 (by decide) ?_
  refine g_callI h (As := [.int (-1)]) (fun t => uM M 1 t) (fun r t hG => MI_self (c_X4_victoriesOf l ω 1 kS1 M _ (-1) hG)) (inS kS1 0 (by decide)) (C := RX4) (T := TX4) (N := 13) rfl 1 rfl gX5_share_X4_victoriesOf rfl rfl rfl (by decide +kernel) (by decide) (st0 := _) rfl (Nat.le_of_ble_eq_true rfl) dX5_share_5 (fun r1 M2 => ?_)
  refine g_nm (fun M3 => ?_)
  refine g_istore_n h rfl (lv' := [(2, .int r1), (0, .ref (th ω 0 0)), (1, .int a1)]) dX5_share_8 (by decide) [0, 1, 2] rfl ?_
  refine g_iload_n h 2 dX5_share_9 rfl rfl ?_
  refine g_callP h (As := [.int a1]) (fun r t hG => c_X5_isPlayer l ω M00 a1 hG) 1 rfl gX5_share_X5_isPlayer rfl rfl rfl (by decide +kernel) (by decide) (st0 := _) rfl (Nat.le_of_ble_eq_true rfl) dX5_share_10 (fun r4 => ?_)
  refine g_if_eq h 21 dX5_share_13 (by decide) (fun hc5 => ?_) (fun hc5 => ?_)
  · skip
    refine g_sub (lv' := []) [] rfl ?_
    exact b_X5_share_21 h hR _
  · skip
    refine g_iload_n h 0 dX5_share_16 rfl rfl ?_
    refine g_iconst h 1 dX5_share_17 (by decide) ?_
    refine g_icmp_ge h 23 dX5_share_18 (by decide) (fun hc6 => ?_) (fun hc6 => ?_)
    · skip
      refine g_aload_n h 1 dX5_share_23 rfl rfl ?_
      refine g_getR h (index := 10) (j := 0) iC_0_0 (C := RX5) (T := TX5) (N := 8) rfl n_X5_share_5 (by decide) rfl (by decide +kernel) dX5_share_24 ?_
      refine g_iload_n h 2 dX5_share_27 rfl rfl ?_
      refine g_callI h (As := [.int a1]) (fun t => uM M3 1 t) (fun r t hG => MI_self (c_X4_victoriesOf l ω 1 kS1 M3 _ a1 hG)) (inS kS1 0 (by decide)) (C := RX4) (T := TX4) (N := 13) rfl 1 rfl gX5_share_X4_victoriesOf rfl rfl rfl (by decide +kernel) (by decide) (st0 := _) rfl (Nat.le_of_ble_eq_true rfl) dX5_share_28 (fun r7 M8 => ?_)
      refine g_nm (fun M9 => ?_)
      refine g_i2f h dX5_share_31 ?_
      refine g_iload_n h 0 dX5_share_32 rfl rfl ?_
      refine g_i2f h dX5_share_33 ?_
      refine g_fdiv h dX5_share_34 ?_
      exact g_fret hR dX5_share_35
    · skip
      refine g_sub (lv' := []) [] rfl ?_
      exact b_X5_share_21 h hR _
theorem n_X5_stamp_5 : ∀ w ∈ wsX50, w ∈ wsX5_stamp := by decide +kernel
set_option maxHeartbeats 4000000 in
set_option maxRecDepth 100000 in
theorem c_X5_stamp (l : Launch) (ω : Wd)  (M : Mm) (a1 : Int32) {r : Int32} {M' : Mm} (hm : m_X5_stamp a1 M = some (r, M')) : MI l yX5_stamp wsX5_stamp ⟨3, 0, 0, 82⟩ ω LC [.ref (th ω 0 0), .int a1] M r M' := by
  refine met_i (cc := cX5_stamp) (maxL := 3) (ty := .int) (by decide +kernel) rfl (Nat.le_of_ble_eq_true rfl) LC_nd ?_
  intro Γ h hR ht
  suffices K : Gq 0 Γ ω LC eI 0 [(0, .ref (th ω 0 0)), (1, .int a1)] [] M (m_X5_stamp a1 M) from K (r, M') hm ht (c0 Γ)
  unfold m_X5_stamp
  refine g_aload_n h 0 dX5_stamp_0 rfl rfl ?_
  refine g_getR h (index := 10) (j := 0) iC_0_0 (C := RX5) (T := TX5) (N := 8) rfl n_X5_stamp_5 (by decide) rfl (by decide +kernel) dX5_stamp_1 ?_
  refine g_iload_n h 1 dX5_stamp_4 rfl rfl ?_
  refine g_callI h (As := [.int a1]) (fun t => uM M 1 t) (fun r t hG => MI_self (c_X4_fallenError l ω 1 kS1 M _ a1 hG)) (inS kS1 0 (by decide)) (C := RX4) (T := TX4) (N := 13) rfl 1 rfl gX5_stamp_X4_fallenError rfl rfl rfl (by decide +kernel) (by decide) (st0 := _) rfl (Nat.le_of_ble_eq_true rfl) dX5_stamp_5 (fun r1 M2 => ?_)
  refine g_nm (fun M3 => ?_)
  refine g_istore_n h rfl (lv' := [(2, .int r1), (0, .ref (th ω 0 0)), (1, .int a1)]) dX5_stamp_8 (by decide) [0, 1, 2] rfl ?_
  refine g_iload_n h 0 dX5_stamp_9 rfl rfl ?_
  refine g_if_eq h 15 dX5_stamp_10 (by decide) (fun hc4 => ?_) (fun hc4 => ?_)
  · skip
    refine g_aload_n h 1 dX5_stamp_15 rfl rfl ?_
    refine g_getR h (index := 25) (j := 3) iC_0_0 (C := RX5) (T := TX5) (N := 8) rfl n_X5_stamp_5 (by decide) rfl (by decide +kernel) dX5_stamp_16 ?_
    refine g_aload_n h 1 dX5_stamp_19 rfl rfl ?_
    refine g_getR h (index := 10) (j := 0) iC_0_0 (C := RX5) (T := TX5) (N := 8) rfl n_X5_stamp_5 (by decide) rfl (by decide +kernel) dX5_stamp_20 ?_
    refine g_callV h (As := [.ref (th ω 1 0)]) (fun t => t) (fun r t hG => c_X1_keep l ω _ hG) iC_12_0 (C := RX1) (T := TX1) (N := 2) rfl 1 rfl gX5_stamp_X1_keep rfl rfl rfl (by decide +kernel) (by decide) (st0 := _) rfl (Nat.le_of_ble_eq_true rfl) dX5_stamp_23 (fun r5 M6 => ?_)
    refine g_aload_n h 1 dX5_stamp_26 rfl rfl ?_
    refine g_getR h (index := 10) (j := 0) iC_0_0 (C := RX5) (T := TX5) (N := 8) rfl n_X5_stamp_5 (by decide) rfl (by decide +kernel) dX5_stamp_27 ?_
    refine g_iload_n h 2 dX5_stamp_30 rfl rfl ?_
    refine g_callI h (As := [.int a1]) (fun t => uM M6 1 t) (fun r t hG => MI_self (c_X4_crush l ω 1 kS1 M6 _ a1 hG)) (inS kS1 0 (by decide)) (C := RX4) (T := TX4) (N := 13) rfl 1 rfl gX5_stamp_X4_crush rfl rfl rfl (by decide +kernel) (by decide) (st0 := _) rfl (Nat.le_of_ble_eq_true rfl) dX5_stamp_31 (fun r7 M8 => ?_)
    refine g_nm (fun M9 => ?_)
    exact g_iret hR rfl dX5_stamp_34
  · skip
    refine g_iload_n h 0 dX5_stamp_13 rfl rfl ?_
    exact g_iret hR rfl dX5_stamp_14
theorem n_X5_strike_5 : ∀ w ∈ wsX50, w ∈ wsX5_strike := by decide +kernel
set_option maxHeartbeats 4000000 in
set_option maxRecDepth 100000 in
theorem c_X5_strike (l : Launch) (ω : Wd)  (M : Mm) (a1 : Int32) (a2 : Int32) (a3 : Int32) {r : Int32} {M' : Mm} (hm : m_X5_strike a1 a2 a3 M = some (r, M')) : MI l yX5_strike wsX5_strike ⟨4, 0, 0, 93⟩ ω LC [.ref (th ω 0 0), .int a1, .int a2, .int a3] M r M' := by
  refine met_i (cc := cX5_strike) (maxL := 5) (ty := .int) (by decide +kernel) rfl (Nat.le_of_ble_eq_true rfl) LC_nd ?_
  intro Γ h hR ht
  suffices K : Gq 0 Γ ω LC eI 0 [(0, .ref (th ω 0 0)), (1, .int a1), (2, .int a2), (3, .int a3)] [] M (m_X5_strike a1 a2 a3 M) from K (r, M') hm ht (c0 Γ)
  unfold m_X5_strike
  refine g_aload_n h 0 dX5_strike_0 rfl rfl ?_
  refine g_getR h (index := 10) (j := 0) iC_0_0 (C := RX5) (T := TX5) (N := 8) rfl n_X5_strike_5 (by decide) rfl (by decide +kernel) dX5_strike_1 ?_
  refine g_iload_n h 1 dX5_strike_4 rfl rfl ?_
  refine g_iload_n h 2 dX5_strike_5 rfl rfl ?_
  refine g_iload_n h 3 dX5_strike_6 rfl rfl ?_
  refine g_callI h (As := [.int a1, .int a2, .int a3]) (fun t => uM M 1 t) (fun r t hG => MI_self (c_X4_strikeError l ω 1 kS1 M _ a1 a2 a3 hG)) (inS kS1 0 (by decide)) (C := RX4) (T := TX4) (N := 13) rfl 3 rfl gX5_strike_X4_strikeError rfl rfl rfl (by decide +kernel) (by decide) (st0 := _) rfl (Nat.le_of_ble_eq_true rfl) dX5_strike_7 (fun r1 M2 => ?_)
  refine g_nm (fun M3 => ?_)
  refine g_istore h (lv' := [(4, .int r1), (0, .ref (th ω 0 0)), (1, .int a1), (2, .int a2), (3, .int a3)]) dX5_strike_10 (by decide) [0, 1, 2, 3, 4] rfl ?_
  refine g_iload h 0 dX5_strike_12 rfl ?_
  refine g_if_eq h 20 dX5_strike_14 (by decide) (fun hc4 => ?_) (fun hc4 => ?_)
  · skip
    refine g_aload_n h 1 dX5_strike_20 rfl rfl ?_
    refine g_getR h (index := 25) (j := 3) iC_0_0 (C := RX5) (T := TX5) (N := 8) rfl n_X5_strike_5 (by decide) rfl (by decide +kernel) dX5_strike_21 ?_
    refine g_aload_n h 1 dX5_strike_24 rfl rfl ?_
    refine g_getR h (index := 10) (j := 0) iC_0_0 (C := RX5) (T := TX5) (N := 8) rfl n_X5_strike_5 (by decide) rfl (by decide +kernel) dX5_strike_25 ?_
    refine g_callV h (As := [.ref (th ω 1 0)]) (fun t => t) (fun r t hG => c_X1_keep l ω _ hG) iC_12_0 (C := RX1) (T := TX1) (N := 2) rfl 1 rfl gX5_strike_X1_keep rfl rfl rfl (by decide +kernel) (by decide) (st0 := _) rfl (Nat.le_of_ble_eq_true rfl) dX5_strike_28 (fun r5 M6 => ?_)
    refine g_aload_n h 1 dX5_strike_31 rfl rfl ?_
    refine g_getR h (index := 10) (j := 0) iC_0_0 (C := RX5) (T := TX5) (N := 8) rfl n_X5_strike_5 (by decide) rfl (by decide +kernel) dX5_strike_32 ?_
    refine g_iload_n h 2 dX5_strike_35 rfl rfl ?_
    refine g_iload_n h 3 dX5_strike_36 rfl rfl ?_
    refine g_iload_n h 4 dX5_strike_37 rfl rfl ?_
    refine g_callI h (As := [.int a1, .int a2, .int a3]) (fun t => uM M6 1 t) (fun r t hG => MI_self (c_X4_hit l ω 1 kS1 M6 _ a1 a2 a3 hG)) (inS kS1 0 (by decide)) (C := RX4) (T := TX4) (N := 13) rfl 3 rfl gX5_strike_X4_hit rfl rfl rfl (by decide +kernel) (by decide) (st0 := _) rfl (Nat.le_of_ble_eq_true rfl) dX5_strike_38 (fun r7 M8 => ?_)
    refine g_nm (fun M9 => ?_)
    exact g_iret hR rfl dX5_strike_41
  · skip
    refine g_iload h 0 dX5_strike_17 rfl ?_
    exact g_iret hR rfl dX5_strike_19
theorem n_X5_thread_4 : ∀ w ∈ wsX40, w ∈ wsX5_thread := by decide +kernel
theorem n_X5_thread_5 : ∀ w ∈ wsX50, w ∈ wsX5_thread := by decide +kernel
set_option maxHeartbeats 4000000 in
set_option maxRecDepth 100000 in
theorem c_X5_thread (l : Launch) (ω : Wd)  (M : Mm) (a1 : Int32) (a2 : Int32) {r : Int32} {M' : Mm} (hm : m_X5_thread a1 a2 M = some (r, M')) : MI l yX5_thread wsX5_thread ⟨3, 0, 0, 82⟩ ω LC [.ref (th ω 0 0), .int a1, .int a2] M r M' := by
  refine met_i (cc := cX5_thread) (maxL := 3) (ty := .int) (by decide +kernel) rfl (Nat.le_of_ble_eq_true rfl) LC_nd ?_
  intro Γ h hR ht
  suffices K : Gq 0 Γ ω LC eI 0 [(0, .ref (th ω 0 0)), (1, .int a1), (2, .int a2)] [] M (m_X5_thread a1 a2 M) from K (r, M') hm ht (c0 Γ)
  unfold m_X5_thread
  refine g_iload_n h 1 dX5_thread_0 rfl rfl ?_
  refine g_callP h (As := [.int a1]) (fun r t hG => c_X5_isPlayer l ω M00 a1 hG) 1 rfl gX5_thread_X5_isPlayer rfl rfl rfl (by decide +kernel) (by decide) (st0 := _) rfl (Nat.le_of_ble_eq_true rfl) dX5_thread_1 (fun r1 => ?_)
  refine g_if_ne h 9 dX5_thread_4 (by decide) (fun hc2 => ?_) (fun hc2 => ?_)
  · skip
    refine g_iconst h (-1) dX5_thread_7 (by decide) ?_
    exact g_iret hR rfl dX5_thread_8
  · skip
    refine g_iload_n h 2 dX5_thread_9 rfl rfl ?_
    refine g_iconst h 1 dX5_thread_10 (by decide) ?_
    refine g_bipush h 9 dX5_thread_11 (by decide) ?_
    refine g_callP h (As := [.int a2, .int 1, .int 9]) (fun r t hG => c_X5_isWithin l ω M00 a2 1 9 hG) 3 rfl gX5_thread_X5_isWithin rfl rfl rfl (by decide +kernel) (by decide) (st0 := _) rfl (Nat.le_of_ble_eq_true rfl) dX5_thread_13 (fun r3 => ?_)
    refine g_if_ne h 22 dX5_thread_16 (by decide) (fun hc4 => ?_) (fun hc4 => ?_)
    · skip
      refine g_bipush h (-2) dX5_thread_19 (by decide) ?_
      exact g_iret hR rfl dX5_thread_21
    · skip
      refine g_aload_n h 0 dX5_thread_22 rfl rfl ?_
      refine g_getR h (index := 10) (j := 0) iC_0_0 (C := RX5) (T := TX5) (N := 8) rfl n_X5_thread_5 (by decide) rfl (by decide +kernel) dX5_thread_23 ?_
      refine g_getR h (index := 62) (j := 0) (inS kS1 0 (by decide)) (C := RX4) (T := TX4) (N := 13) rfl n_X5_thread_4 (by decide) rfl (by decide +kernel) dX5_thread_26 ?_
      refine g_iload_n h 1 dX5_thread_29 rfl rfl ?_
      refine g_iald h (v := M 1 1 a1.toNatClampNeg) rfl (inS kS1 1 (by decide)) dX5_thread_30 ?_
      refine g_ni (fun v5 => ?_)
      refine g_iconst h 1 dX5_thread_31 (by decide) ?_
      refine g_icmp_ge h 38 dX5_thread_32 (by decide) (fun hc6 => ?_) (fun hc6 => ?_)
      · skip
        refine g_aload_n h 0 dX5_thread_38 rfl rfl ?_
        refine g_getR h (index := 10) (j := 0) iC_0_0 (C := RX5) (T := TX5) (N := 8) rfl n_X5_thread_5 (by decide) rfl (by decide +kernel) dX5_thread_39 ?_
        refine g_getI h (v := M 1 0 10) rfl (index := 66) (j := 10) (inS kS1 0 (by decide)) (C := RX4) (T := TX4) (N := 13) rfl n_X5_thread_4 (by decide) rfl (by decide +kernel) dX5_thread_42 ?_
        refine g_ni (fun v7 => ?_)
        refine g_bipush h 30 dX5_thread_45 (by decide) ?_
        refine g_icmp_lt h 53 dX5_thread_47 (by decide) (fun hc8 => ?_) (fun hc8 => ?_)
        · skip
          refine g_aload_n h 0 dX5_thread_53 rfl rfl ?_
          refine g_getR h (index := 25) (j := 3) iC_0_0 (C := RX5) (T := TX5) (N := 8) rfl n_X5_thread_5 (by decide) rfl (by decide +kernel) dX5_thread_54 ?_
          refine g_aload_n h 0 dX5_thread_57 rfl rfl ?_
          refine g_getR h (index := 10) (j := 0) iC_0_0 (C := RX5) (T := TX5) (N := 8) rfl n_X5_thread_5 (by decide) rfl (by decide +kernel) dX5_thread_58 ?_
          refine g_callV h (As := [.ref (th ω 1 0)]) (fun t => t) (fun r t hG => c_X1_keep l ω _ hG) iC_12_0 (C := RX1) (T := TX1) (N := 2) rfl 1 rfl gX5_thread_X1_keep rfl rfl rfl (by decide +kernel) (by decide) (st0 := _) rfl (Nat.le_of_ble_eq_true rfl) dX5_thread_61 (fun r9 M10 => ?_)
          refine g_aload_n h 0 dX5_thread_64 rfl rfl ?_
          refine g_getR h (index := 10) (j := 0) iC_0_0 (C := RX5) (T := TX5) (N := 8) rfl n_X5_thread_5 (by decide) rfl (by decide +kernel) dX5_thread_65 ?_
          refine g_iload_n h 1 dX5_thread_68 rfl rfl ?_
          refine g_iload_n h 2 dX5_thread_69 rfl rfl ?_
          refine g_callI h (As := [.int a1, .int a2]) (fun t => uM M10 1 t) (fun r t hG => MI_self (c_X4_addConker l ω 1 kS1 M10 _ a1 a2 hG)) (inS kS1 0 (by decide)) (C := RX4) (T := TX4) (N := 13) rfl 2 rfl gX5_thread_X4_addConker rfl rfl rfl (by decide +kernel) (by decide) (st0 := _) rfl (Nat.le_of_ble_eq_true rfl) dX5_thread_70 (fun r11 M12 => ?_)
          refine g_nm (fun M13 => ?_)
          exact g_iret hR rfl dX5_thread_73
        · skip
          refine g_bipush h (-3) dX5_thread_50 (by decide) ?_
          exact g_iret hR rfl dX5_thread_52
      · skip
        refine g_bipush h (-4) dX5_thread_35 (by decide) ?_
        exact g_iret hR rfl dX5_thread_37
theorem n_X5_undo_5 : ∀ w ∈ wsX50, w ∈ wsX5_undo := by decide +kernel
set_option maxHeartbeats 4000000 in
set_option maxRecDepth 100000 in
theorem c_X5_undo (l : Launch) (ω : Wd)  (M : Mm) {r : Int32} {M' : Mm} (hm : m_X5_undo M = some (r, M')) : MI l yX5_undo wsX5_undo ⟨3, 0, 0, 82⟩ ω LC [.ref (th ω 0 0)] M r M' := by
  refine met_i (cc := cX5_undo) (maxL := 1) (ty := .int) (by decide +kernel) rfl (Nat.le_of_ble_eq_true rfl) LC_nd ?_
  intro Γ h hR ht
  suffices K : Gq 0 Γ ω LC eI 0 [(0, .ref (th ω 0 0))] [] M (m_X5_undo M) from K (r, M') hm ht (c0 Γ)
  unfold m_X5_undo
  refine g_aload_n h 0 dX5_undo_0 rfl rfl ?_
  refine g_getR h (index := 25) (j := 3) iC_0_0 (C := RX5) (T := TX5) (N := 8) rfl n_X5_undo_5 (by decide) rfl (by decide +kernel) dX5_undo_1 ?_
  refine g_aload_n h 0 dX5_undo_4 rfl rfl ?_
  refine g_getR h (index := 10) (j := 0) iC_0_0 (C := RX5) (T := TX5) (N := 8) rfl n_X5_undo_5 (by decide) rfl (by decide +kernel) dX5_undo_5 ?_
  refine g_callI h (As := [.ref (th ω 1 0)]) (fun t => t) (fun r t hG => c_X1_bringBack l ω _ hG) iC_12_0 (C := RX1) (T := TX1) (N := 2) rfl 1 rfl gX5_undo_X1_bringBack rfl rfl rfl (by decide +kernel) (by decide) (st0 := _) rfl (Nat.le_of_ble_eq_true rfl) dX5_undo_8 (fun r1 M2 => ?_)
  exact g_iret hR rfl dX5_undo_11
theorem n_X5_winner_4 : ∀ w ∈ wsX40, w ∈ wsX5_winner := by decide +kernel
theorem n_X5_winner_5 : ∀ w ∈ wsX50, w ∈ wsX5_winner := by decide +kernel
set_option maxHeartbeats 4000000 in
set_option maxRecDepth 100000 in
theorem b_X5_winner_91 {Γ : Cx} {l : Launch} {ω : Wd}  (h : CxOk Γ l ⟨5, 0, 0, 120⟩ 7 ω LC cX5_winner yX5_winner.cls wsX5_winner) (hR : RetI Γ ω LC cX5_winner .int) : ∀ (b1 : Int32) (b2 : Int32) (b5 : Int32) (s0 : Int32) (M : Mm), Gq 0 Γ ω LC eI 91 [(1, .int b1), (2, .int b2), (5, .int b5)] [.int s0] M (m_X5_winner_91 b1 b2 b5 s0 M) := by
  intro b1 b2 b5 s0 M
  unfold m_X5_winner_91
  refine g_istore h (lv' := [(6, .int s0), (1, .int b1), (2, .int b2), (5, .int b5)]) dX5_winner_91 (by decide) [0, 1, 2, 3] rfl ?_
  refine g_iload h 3 dX5_winner_93 rfl ?_
  refine g_iload h 0 dX5_winner_95 rfl ?_
  refine g_icmp_ne h 103 dX5_winner_97 (by decide) (fun hc1 => ?_) (fun hc1 => ?_)
  · skip
    refine g_bipush h (-5) dX5_winner_100 (by decide) ?_
    exact g_iret hR rfl dX5_winner_102
  · skip
    refine g_iload h 3 dX5_winner_103 rfl ?_
    refine g_if_eq h 112 dX5_winner_105 (by decide) (fun hc2 => ?_) (fun hc2 => ?_)
    · skip
      refine g_iload_n h 1 dX5_winner_112 rfl rfl ?_
      exact g_iret hR rfl dX5_winner_113
    · skip
      refine g_iload_n h 2 dX5_winner_108 rfl rfl ?_
      refine g_goto h (tgt := 113) dX5_winner_109 (by decide) ?_
      exact g_iret hR rfl dX5_winner_113
set_option maxHeartbeats 4000000 in
set_option maxRecDepth 100000 in
theorem b_X5_winner_71 {Γ : Cx} {l : Launch} {ω : Wd}  (h : CxOk Γ l ⟨5, 0, 0, 120⟩ 7 ω LC cX5_winner yX5_winner.cls wsX5_winner) (hR : RetI Γ ω LC cX5_winner .int) : ∀ (b1 : Int32) (b2 : Int32) (s0 : Int32) (M : Mm), Gq 0 Γ ω LC eI 71 [(0, .ref (th ω 0 0)), (1, .int b1), (2, .int b2)] [.int s0] M (m_X5_winner_71 b1 b2 s0 M) := by
  intro b1 b2 s0 M
  unfold m_X5_winner_71
  refine g_istore h (lv' := [(5, .int s0), (0, .ref (th ω 0 0)), (1, .int b1), (2, .int b2)]) dX5_winner_71 (by decide) [0, 1, 2, 3] rfl ?_
  refine g_aload_n h 1 dX5_winner_73 rfl rfl ?_
  refine g_getR h (index := 19) (j := 2) iC_0_0 (C := RX5) (T := TX5) (N := 8) rfl n_X5_winner_5 (by decide) rfl (by decide +kernel) dX5_winner_74 ?_
  refine g_getR h (index := 101) (j := 8) (inS kS3 0 (by decide)) (C := RX4) (T := TX4) (N := 13) rfl n_X5_winner_4 (by decide) rfl (by decide +kernel) dX5_winner_77 ?_
  refine g_iload_n h 3 dX5_winner_80 rfl rfl ?_
  refine g_iald h (v := M 3 9 b2.toNatClampNeg) rfl (inS kS3 9 (by decide)) dX5_winner_81 ?_
  refine g_ni (fun v1 => ?_)
  refine g_iconst h 2 dX5_winner_82 (by decide) ?_
  refine g_icmp_ne h 90 dX5_winner_83 (by decide) (fun hc2 => ?_) (fun hc2 => ?_)
  · skip
    refine g_iconst h 1 dX5_winner_86 (by decide) ?_
    refine g_goto h (tgt := 91) dX5_winner_87 (by decide) ?_
    refine g_sub (lv' := [(1, .int b1), (2, .int b2), (5, .int s0)]) [2, 3, 0] rfl ?_
    exact b_X5_winner_91 h hR _ _ _ _ _
  · skip
    refine g_iconst h 0 dX5_winner_90 (by decide) ?_
    refine g_sub (lv' := [(1, .int b1), (2, .int b2), (5, .int s0)]) [2, 3, 0] rfl ?_
    exact b_X5_winner_91 h hR _ _ _ _ _
set_option maxHeartbeats 4000000 in
set_option maxRecDepth 100000 in
theorem c_X5_winner (l : Launch) (ω : Wd)  (M : Mm) (a1 : Int32) (a2 : Int32) (a3 : Int32) {r : Int32} {M' : Mm} (hm : m_X5_winner a1 a2 a3 M = some (r, M')) : MI l yX5_winner wsX5_winner ⟨5, 0, 0, 120⟩ ω LC [.ref (th ω 0 0), .int a1, .int a2, .int a3] M r M' := by
  refine met_i (cc := cX5_winner) (maxL := 7) (ty := .int) (by decide +kernel) rfl (Nat.le_of_ble_eq_true rfl) LC_nd ?_
  intro Γ h hR ht
  suffices K : Gq 0 Γ ω LC eI 0 [(0, .ref (th ω 0 0)), (1, .int a1), (2, .int a2), (3, .int a3)] [] M (m_X5_winner a1 a2 a3 M) from K (r, M') hm ht (c0 Γ)
  unfold m_X5_winner
  refine g_aload_n h 0 dX5_winner_0 rfl rfl ?_
  refine g_getR h (index := 10) (j := 0) iC_0_0 (C := RX5) (T := TX5) (N := 8) rfl n_X5_winner_5 (by decide) rfl (by decide +kernel) dX5_winner_1 ?_
  refine g_iload_n h 1 dX5_winner_4 rfl rfl ?_
  refine g_iload_n h 2 dX5_winner_5 rfl rfl ?_
  refine g_iload_n h 3 dX5_winner_6 rfl rfl ?_
  refine g_callI h (As := [.int a1, .int a2, .int a3]) (fun t => uM M 1 t) (fun r t hG => MI_self (c_X4_boutError l ω 1 kS1 M _ a1 a2 a3 hG)) (inS kS1 0 (by decide)) (C := RX4) (T := TX4) (N := 13) rfl 3 rfl gX5_winner_X4_boutError rfl rfl rfl (by decide +kernel) (by decide) (st0 := _) rfl (Nat.le_of_ble_eq_true rfl) dX5_winner_7 (fun r1 M2 => ?_)
  refine g_nm (fun M3 => ?_)
  refine g_istore h (lv' := [(4, .int r1), (0, .ref (th ω 0 0)), (1, .int a1), (2, .int a2), (3, .int a3)]) dX5_winner_10 (by decide) [0, 1, 2, 3, 4] rfl ?_
  refine g_iload h 0 dX5_winner_12 rfl ?_
  refine g_if_eq h 20 dX5_winner_14 (by decide) (fun hc4 => ?_) (fun hc4 => ?_)
  · skip
    refine g_aload_n h 1 dX5_winner_20 rfl rfl ?_
    refine g_getR h (index := 19) (j := 2) iC_0_0 (C := RX5) (T := TX5) (N := 8) rfl n_X5_winner_5 (by decide) rfl (by decide +kernel) dX5_winner_21 ?_
    refine g_aload_n h 1 dX5_winner_24 rfl rfl ?_
    refine g_getR h (index := 10) (j := 0) iC_0_0 (C := RX5) (T := TX5) (N := 8) rfl n_X5_winner_5 (by decide) rfl (by decide +kernel) dX5_winner_25 ?_
    refine g_callV h (As := [.ref (th ω 1 0)]) (fun t => t) (fun r t hG => c_X4_copyFrom l ω 3 1 kS3 kS1 _ hG) (inS kS3 0 (by decide)) (C := RX4) (T := TX4) (N := 13) rfl 1 rfl gX5_winner_X4_copyFrom rfl rfl rfl (by decide +kernel) (by decide) (st0 := _) rfl (Nat.le_of_ble_eq_true rfl) dX5_winner_28 (fun r5 M6 => ?_)
    refine g_aload_n h 1 dX5_winner_31 rfl rfl ?_
    refine g_getR h (index := 39) (j := 5) iC_0_0 (C := RX5) (T := TX5) (N := 8) rfl n_X5_winner_5 (by decide) rfl (by decide +kernel) dX5_winner_32 ?_
    refine g_iload_n h 4 dX5_winner_35 rfl rfl ?_
    refine g_callV h (As := [.int a3]) (fun t => uM M6 10 t) (fun r t hG => MV_self (c_X0_begin l ω M6 _ a3 hG)) iC_10_0 (C := RX0) (T := TX0) (N := 1) rfl 1 rfl gX5_winner_X0_begin rfl rfl rfl (by decide +kernel) (by decide) (st0 := _) rfl (Nat.le_of_ble_eq_true rfl) dX5_winner_36 (fun r7 M8 => ?_)
    refine g_nm (fun M9 => ?_)
    refine g_aload_n h 1 dX5_winner_39 rfl rfl ?_
    refine g_getR h (index := 19) (j := 2) iC_0_0 (C := RX5) (T := TX5) (N := 8) rfl n_X5_winner_5 (by decide) rfl (by decide +kernel) dX5_winner_40 ?_
    refine g_iload_n h 2 dX5_winner_43 rfl rfl ?_
    refine g_iload_n h 3 dX5_winner_44 rfl rfl ?_
    refine g_aload_n h 1 dX5_winner_45 rfl rfl ?_
    refine g_getR h (index := 39) (j := 5) iC_0_0 (C := RX5) (T := TX5) (N := 8) rfl n_X5_winner_5 (by decide) rfl (by decide +kernel) dX5_winner_46 ?_
    refine g_callI h (As := [.int a1, .int a2, .ref (th ω 10 0)]) (fun t => t) (fun r t hG => c_X4_fight l ω 3 kS3 _ a1 a2 hG) (inS kS3 0 (by decide)) (C := RX4) (T := TX4) (N := 13) rfl 3 rfl gX5_winner_X4_fight rfl rfl rfl (by decide +kernel) (by decide) (st0 := _) rfl (Nat.le_of_ble_eq_true rfl) dX5_winner_49 (fun r10 M11 => ?_)
    refine g_pop h dX5_winner_52 rfl ?_
    refine g_aload_n h 1 dX5_winner_53 rfl rfl ?_
    refine g_getR h (index := 19) (j := 2) iC_0_0 (C := RX5) (T := TX5) (N := 8) rfl n_X5_winner_5 (by decide) rfl (by decide +kernel) dX5_winner_54 ?_
    refine g_getR h (index := 101) (j := 8) (inS kS3 0 (by decide)) (C := RX4) (T := TX4) (N := 13) rfl n_X5_winner_4 (by decide) rfl (by decide +kernel) dX5_winner_57 ?_
    refine g_iload_n h 2 dX5_winner_60 rfl rfl ?_
    refine g_iald h (v := M11 3 9 a1.toNatClampNeg) rfl (inS kS3 9 (by decide)) dX5_winner_61 ?_
    refine g_ni (fun v12 => ?_)
    refine g_iconst h 2 dX5_winner_62 (by decide) ?_
    refine g_icmp_ne h 70 dX5_winner_63 (by decide) (fun hc13 => ?_) (fun hc13 => ?_)
    · skip
      refine g_iconst h 1 dX5_winner_66 (by decide) ?_
      refine g_goto h (tgt := 71) dX5_winner_67 (by decide) ?_
      refine g_sub (lv' := [(0, .ref (th ω 0 0)), (1, .int a1), (2, .int a2)]) [1, 2, 3] rfl ?_
      exact b_X5_winner_71 h hR _ _ _ _
    · skip
      refine g_iconst h 0 dX5_winner_70 (by decide) ?_
      refine g_sub (lv' := [(0, .ref (th ω 0 0)), (1, .int a1), (2, .int a2)]) [1, 2, 3] rfl ?_
      exact b_X5_winner_71 h hR _ _ _ _
  · skip
    refine g_iload h 0 dX5_winner_17 rfl ?_
    exact g_iret hR rfl dX5_winner_19
set_option maxHeartbeats 4000000 in
set_option maxRecDepth 100000 in
theorem c_L_low (l : Launch) (ω : Wd)  (M : Mm) (a0 : Int32) (a1 : Int32) {r : Int32} {M' : Mm} (hm : m_L_low a0 a1 M = some (r, M')) : MI l yL_low wsL_low ⟨0, 0, 0, 0⟩ ω L00 [.int a0, .int a1] M r M' := by
  refine met_i (cc := cL_low) (maxL := 2) (ty := .int) (by decide +kernel) rfl (Nat.le_of_ble_eq_true rfl) L00_nd ?_
  intro Γ h hR ht
  suffices K : Gq 0 Γ ω L00 eI 0 [(0, .int a0), (1, .int a1)] [] M (m_L_low a0 a1 M) from K (r, M') hm ht (c0 Γ)
  have hcx : CtOk Γ (0 + 0) := ctRm h (by decide) (by decide)
  unfold m_L_low
  refine g_iload_n h 0 dL_low_0 rfl rfl ?_
  refine g_ldc h 2147483647 dL_low_1 (by decide +kernel) ?_
  refine g_iand h dL_low_3 ?_
  refine g_iload_n h 1 dL_low_4 rfl rfl ?_
  refine g_irem h dL_low_5 ?_
  exact g_iret hR rfl dL_low_6
set_option maxHeartbeats 4000000 in
set_option maxRecDepth 100000 in
theorem b_L_act_204 {Γ : Cx} {l : Launch} {ω : Wd} {ct : Nat}  (h : CxOk Γ l ⟨6, 0, 0, 144⟩ 5 ω LC cL_act yL_act.cls wsL_act) (hR : RetI Γ ω LC cL_act .int) (hcx : CtOk Γ (ct + 0)) : ∀ (b2 : Int32) (M : Mm), Gq ct Γ ω LC eI 204 [(0, .ref (th ω 0 0)), (2, .int b2)] [] M (m_L_act_204 b2 M) := by
  intro b2 M
  unfold m_L_act_204
  refine g_aload_n h 0 dL_act_204 rfl rfl ?_
  refine g_iload_n h 1 dL_act_205 rfl rfl ?_
  refine g_ldc h 65536 dL_act_206 (by decide +kernel) ?_
  refine g_callP h (As := [.int b2, .int 65536]) (fun r t hG => c_L_low l ω M00 b2 65536 hG) 2 rfl gL_act_L_low rfl rfl rfl (by decide +kernel) (by decide) (st0 := _) rfl (Nat.le_of_ble_eq_true rfl) dL_act_208 (fun r1 => ?_)
  refine g_callI h (As := [.int r1]) (fun t => t) (fun r t hG => c_X5_round l ω _ r1 hG) iC_0_0 (C := RX5) (T := TX5) (N := 8) rfl 1 rfl gL_act_X5_round rfl rfl rfl (by decide +kernel) (by decide) (st0 := _) rfl (Nat.le_of_ble_eq_true rfl) dL_act_211 (fun r2 M3 => ?_)
  exact g_iret hR rfl dL_act_214
set_option maxHeartbeats 4000000 in
set_option maxRecDepth 100000 in
theorem b_L_act_190 {Γ : Cx} {l : Launch} {ω : Wd} {ct : Nat}  (h : CxOk Γ l ⟨6, 0, 0, 144⟩ 5 ω LC cL_act yL_act.cls wsL_act) (hR : RetI Γ ω LC cL_act .int) (hcx : CtOk Γ (ct + 0)) : ∀ (b2 : Int32) (b3 : Int32) (b4 : Int32) (M : Mm), Gq ct Γ ω LC eI 190 [(0, .ref (th ω 0 0)), (2, .int b2), (3, .int b3), (4, .int b4)] [] M (m_L_act_190 b2 b3 b4 M) := by
  intro b2 b3 b4 M
  unfold m_L_act_190
  refine g_aload_n h 0 dL_act_190 rfl rfl ?_
  refine g_iload_n h 2 dL_act_191 rfl rfl ?_
  refine g_iload h 3 dL_act_192 rfl ?_
  refine g_iload_n h 1 dL_act_194 rfl rfl ?_
  refine g_ldc h 65536 dL_act_195 (by decide +kernel) ?_
  refine g_callP h (As := [.int b2, .int 65536]) (fun r t hG => c_L_low l ω M00 b2 65536 hG) 2 rfl gL_act_L_low rfl rfl rfl (by decide +kernel) (by decide) (st0 := _) rfl (Nat.le_of_ble_eq_true rfl) dL_act_197 (fun r1 => ?_)
  refine g_callI h (As := [.int b3, .int b4, .int r1]) (fun t => t) (fun r t hG => c_X5_bout l ω _ b3 b4 r1 hG) iC_0_0 (C := RX5) (T := TX5) (N := 8) rfl 3 rfl gL_act_X5_bout rfl rfl rfl (by decide +kernel) (by decide) (st0 := _) rfl (Nat.le_of_ble_eq_true rfl) dL_act_200 (fun r2 M3 => ?_)
  exact g_iret hR rfl dL_act_203
set_option maxHeartbeats 4000000 in
set_option maxRecDepth 100000 in
theorem b_L_act_155 {Γ : Cx} {l : Launch} {ω : Wd} {ct : Nat}  (h : CxOk Γ l ⟨6, 0, 0, 144⟩ 5 ω LC cL_act yL_act.cls wsL_act) (hR : RetI Γ ω LC cL_act .int) (hcx : CtOk Γ (ct + 0)) : ∀ (b3 : Int32) (M : Mm), Gq ct Γ ω LC eI 155 [(0, .ref (th ω 0 0)), (3, .int b3)] [] M (m_L_act_155 b3 M) := by
  intro b3 M
  unfold m_L_act_155
  refine g_aload_n h 0 dL_act_155 rfl rfl ?_
  refine g_iload_n h 1 dL_act_156 rfl rfl ?_
  refine g_callI h (As := [.int b3]) (fun t => t) (fun r t hG => c_X5_mend l ω _ b3 hG) iC_0_0 (C := RX5) (T := TX5) (N := 8) rfl 1 rfl gL_act_X5_mend rfl rfl rfl (by decide +kernel) (by decide) (st0 := _) rfl (Nat.le_of_ble_eq_true rfl) dL_act_157 (fun r1 M2 => ?_)
  exact g_iret hR rfl dL_act_160
set_option maxHeartbeats 4000000 in
set_option maxRecDepth 100000 in
theorem b_L_act_143 {Γ : Cx} {l : Launch} {ω : Wd} {ct : Nat}  (h : CxOk Γ l ⟨6, 0, 0, 144⟩ 5 ω LC cL_act yL_act.cls wsL_act) (hR : RetI Γ ω LC cL_act .int) (hcx : CtOk Γ (ct + 0)) : ∀ (b2 : Int32) (b3 : Int32) (M : Mm), Gq ct Γ ω LC eI 143 [(0, .ref (th ω 0 0)), (2, .int b2), (3, .int b3)] [] M (m_L_act_143 b2 b3 M) := by
  intro b2 b3 M
  unfold m_L_act_143
  refine g_aload_n h 0 dL_act_143 rfl rfl ?_
  refine g_iload_n h 1 dL_act_144 rfl rfl ?_
  refine g_bipush h 6 dL_act_145 (by decide) ?_
  refine g_callP h (As := [.int b2, .int 6]) (fun r t hG => c_L_low l ω M00 b2 6 hG) 2 rfl gL_act_L_low rfl rfl rfl (by decide +kernel) (by decide) (st0 := _) rfl (Nat.le_of_ble_eq_true rfl) dL_act_147 (fun r1 => ?_)
  refine g_iload_n h 2 dL_act_150 rfl rfl ?_
  refine g_callI h (As := [.int r1, .int b3]) (fun t => t) (fun r t hG => c_X5_doubt l ω _ r1 b3 hG) iC_0_0 (C := RX5) (T := TX5) (N := 8) rfl 2 rfl gL_act_X5_doubt rfl rfl rfl (by decide +kernel) (by decide) (st0 := _) rfl (Nat.le_of_ble_eq_true rfl) dL_act_151 (fun r2 M3 => ?_)
  exact g_iret hR rfl dL_act_154
set_option maxHeartbeats 4000000 in
set_option maxRecDepth 100000 in
theorem b_L_act_92 {Γ : Cx} {l : Launch} {ω : Wd} {ct : Nat}  (h : CxOk Γ l ⟨6, 0, 0, 144⟩ 5 ω LC cL_act yL_act.cls wsL_act) (hR : RetI Γ ω LC cL_act .int) (hcx : CtOk Γ (ct + 0)) : ∀ (b1 : Int32) (b2 : Int32) (M : Mm), Gq ct Γ ω LC eI 92 [(0, .ref (th ω 0 0)), (1, .int b1), (2, .int b2)] [] M (m_L_act_92 b1 b2 M) := by
  intro b1 b2 M
  unfold m_L_act_92
  refine g_aload_n h 0 dL_act_92 rfl rfl ?_
  refine g_iload_n h 1 dL_act_93 rfl rfl ?_
  refine g_iconst h 4 dL_act_94 (by decide) ?_
  refine g_ishr h dL_act_95 ?_
  refine g_iconst h 4 dL_act_96 (by decide) ?_
  refine g_callP h (As := [.int (b1 >>> (4 &&& 31)), .int 4]) (fun r t hG => c_L_low l ω M00 (b1 >>> (4 &&& 31)) 4 hG) 2 rfl gL_act_L_low rfl rfl rfl (by decide +kernel) (by decide) (st0 := _) rfl (Nat.le_of_ble_eq_true rfl) dL_act_97 (fun r1 => ?_)
  refine g_iconst h 1 dL_act_100 (by decide) ?_
  refine g_iload_n h 2 dL_act_101 rfl rfl ?_
  refine g_bipush h 9 dL_act_102 (by decide) ?_
  refine g_callP h (As := [.int b2, .int 9]) (fun r t hG => c_L_low l ω M00 b2 9 hG) 2 rfl gL_act_L_low rfl rfl rfl (by decide +kernel) (by decide) (st0 := _) rfl (Nat.le_of_ble_eq_true rfl) dL_act_104 (fun r2 => ?_)
  refine g_iadd h dL_act_107 ?_
  refine g_callI h (As := [.int r1, .int (1 + r2)]) (fun t => t) (fun r t hG => c_X5_thread l ω _ r1 (1 + r2) hG) iC_0_0 (C := RX5) (T := TX5) (N := 8) rfl 2 rfl gL_act_X5_thread rfl rfl rfl (by decide +kernel) (by decide) (st0 := _) rfl (Nat.le_of_ble_eq_true rfl) dL_act_108 (fun r3 M4 => ?_)
  exact g_iret hR rfl dL_act_111
set_option maxHeartbeats 4000000 in
set_option maxRecDepth 100000 in
theorem c_L_act (l : Launch) (ω : Wd)  (M : Mm) (a1 : Int32) (a2 : Int32) {r : Int32} {M' : Mm} (hm : m_L_act a1 a2 M = some (r, M')) : MI l yL_act wsL_act ⟨6, 0, 0, 144⟩ ω LC [.ref (th ω 0 0), .int a1, .int a2] M r M' := by
  refine met_i (cc := cL_act) (maxL := 5) (ty := .int) (by decide +kernel) rfl (Nat.le_of_ble_eq_true rfl) LC_nd ?_
  intro Γ h hR ht
  suffices K : Gq 0 Γ ω LC eI 0 [(0, .ref (th ω 0 0)), (1, .int a1), (2, .int a2)] [] M (m_L_act a1 a2 M) from K (r, M') hm ht (c0 Γ)
  have hcx : CtOk Γ (0 + 0) := ctRm h (by decide) (by decide)
  unfold m_L_act
  refine g_iload_n h 1 dL_act_0 rfl rfl ?_
  refine g_iconst h 4 dL_act_1 (by decide) ?_
  refine g_ishr h dL_act_2 ?_
  refine g_bipush h 9 dL_act_3 (by decide) ?_
  refine g_callP h (As := [.int (a1 >>> (4 &&& 31)), .int 9]) (fun r t hG => c_L_low l ω M00 (a1 >>> (4 &&& 31)) 9 hG) 2 rfl gL_act_L_low rfl rfl rfl (by decide +kernel) (by decide) (st0 := _) rfl (Nat.le_of_ble_eq_true rfl) dL_act_5 (fun r1 => ?_)
  refine g_istore_n h rfl (lv' := [(3, .int r1), (0, .ref (th ω 0 0)), (1, .int a1), (2, .int a2)]) dL_act_8 (by decide) [0, 1, 2, 3] rfl ?_
  refine g_iload_n h 2 dL_act_9 rfl rfl ?_
  refine g_bipush h 8 dL_act_10 (by decide) ?_
  refine g_ishr h dL_act_12 ?_
  refine g_bipush h 9 dL_act_13 (by decide) ?_
  refine g_callP h (As := [.int (a1 >>> (8 &&& 31)), .int 9]) (fun r t hG => c_L_low l ω M00 (a1 >>> (8 &&& 31)) 9 hG) 2 rfl gL_act_L_low rfl rfl rfl (by decide +kernel) (by decide) (st0 := _) rfl (Nat.le_of_ble_eq_true rfl) dL_act_15 (fun r2 => ?_)
  refine g_istore h (lv' := [(4, .int r2), (3, .int r1), (0, .ref (th ω 0 0)), (1, .int a1), (2, .int a2)]) dL_act_18 (by decide) [0, 1, 2, 3, 4] rfl ?_
  refine g_iload_n h 3 dL_act_20 rfl rfl ?_
  refine g_bipush h 17 dL_act_21 (by decide) ?_
  refine g_callP h (As := [.int a1, .int 17]) (fun r t hG => c_L_low l ω M00 a1 17 hG) 2 rfl gL_act_L_low rfl rfl rfl (by decide +kernel) (by decide) (st0 := _) rfl (Nat.le_of_ble_eq_true rfl) dL_act_23 (fun r3 => ?_)
  refine g_if (fun hc4 => ?_) (fun hc4 => ?_)
  · refine g_tsIn h 0 (off := 66) 92 hc4 dL_act_26 (by decide) (by decide) rfl (by decide) ?_
    refine g_sub (lv' := [(0, .ref (th ω 0 0)), (1, .int a1), (2, .int a2)]) [2, 3, 4] rfl ?_
    exact b_L_act_92 h hR (CtOk.mono hcx (by omega)) _ _ _
  refine g_if (fun hc5 => ?_) (fun hc5 => ?_)
  · refine g_tsIn h 1 (off := 66) 92 hc5 dL_act_26 (by decide) (by decide) rfl (by decide) ?_
    refine g_sub (lv' := [(0, .ref (th ω 0 0)), (1, .int a1), (2, .int a2)]) [2, 3, 4] rfl ?_
    exact b_L_act_92 h hR (CtOk.mono hcx (by omega)) _ _ _
  refine g_if (fun hc6 => ?_) (fun hc6 => ?_)
  · refine g_tsIn h 2 (off := 86) 112 hc6 dL_act_26 (by decide) (by decide) rfl (by decide) ?_
    refine g_aload_n h 2 dL_act_112 rfl rfl ?_
    refine g_iload_n h 3 dL_act_113 rfl rfl ?_
    refine g_iconst h 4 dL_act_114 (by decide) ?_
    refine g_ishr h dL_act_115 ?_
    refine g_iconst h 4 dL_act_116 (by decide) ?_
    refine g_callP h (As := [.int (a1 >>> (4 &&& 31)), .int 4]) (fun r t hG => c_L_low l ω M00 (a1 >>> (4 &&& 31)) 4 hG) 2 rfl gL_act_L_low rfl rfl rfl (by decide +kernel) (by decide) (st0 := _) rfl (Nat.le_of_ble_eq_true rfl) dL_act_117 (fun r7 => ?_)
    refine g_iconst h 1 dL_act_120 (by decide) ?_
    refine g_iload_n h 4 dL_act_121 rfl rfl ?_
    refine g_bipush h 9 dL_act_122 (by decide) ?_
    refine g_callP h (As := [.int a2, .int 9]) (fun r t hG => c_L_low l ω M00 a2 9 hG) 2 rfl gL_act_L_low rfl rfl rfl (by decide +kernel) (by decide) (st0 := _) rfl (Nat.le_of_ble_eq_true rfl) dL_act_124 (fun r8 => ?_)
    refine g_iadd h dL_act_127 ?_
    refine g_callI h (As := [.int r7, .int (1 + r8)]) (fun t => t) (fun r t hG => c_X5_give l ω _ r7 (1 + r8) hG) iC_0_0 (C := RX5) (T := TX5) (N := 8) rfl 2 rfl gL_act_X5_give rfl rfl rfl (by decide +kernel) (by decide) (st0 := _) rfl (Nat.le_of_ble_eq_true rfl) dL_act_128 (fun r9 M10 => ?_)
    exact g_iret hR rfl dL_act_131
  refine g_if (fun hc11 => ?_) (fun hc11 => ?_)
  · refine g_tsIn h 3 (off := 106) 132 hc11 dL_act_26 (by decide) (by decide) rfl (by decide) ?_
    refine g_aload_n h 2 dL_act_132 rfl rfl ?_
    refine g_iload_n h 1 dL_act_133 rfl rfl ?_
    refine g_iload_n h 4 dL_act_134 rfl rfl ?_
    refine g_iconst h 4 dL_act_135 (by decide) ?_
    refine g_callP h (As := [.int a2, .int 4]) (fun r t hG => c_L_low l ω M00 a2 4 hG) 2 rfl gL_act_L_low rfl rfl rfl (by decide +kernel) (by decide) (st0 := _) rfl (Nat.le_of_ble_eq_true rfl) dL_act_136 (fun r12 => ?_)
    refine g_callI h (As := [.int r1, .int r12]) (fun t => t) (fun r t hG => c_X5_boast l ω _ r1 r12 hG) iC_0_0 (C := RX5) (T := TX5) (N := 8) rfl 2 rfl gL_act_X5_boast rfl rfl rfl (by decide +kernel) (by decide) (st0 := _) rfl (Nat.le_of_ble_eq_true rfl) dL_act_139 (fun r13 M14 => ?_)
    exact g_iret hR rfl dL_act_142
  refine g_if (fun hc15 => ?_) (fun hc15 => ?_)
  · refine g_tsIn h 4 (off := 117) 143 hc15 dL_act_26 (by decide) (by decide) rfl (by decide) ?_
    refine g_sub (lv' := [(0, .ref (th ω 0 0)), (2, .int a2), (3, .int r1)]) [2, 4, 1] rfl ?_
    exact b_L_act_143 h hR (CtOk.mono hcx (by omega)) _ _ _
  refine g_if (fun hc16 => ?_) (fun hc16 => ?_)
  · refine g_tsIn h 5 (off := 117) 143 hc16 dL_act_26 (by decide) (by decide) rfl (by decide) ?_
    refine g_sub (lv' := [(0, .ref (th ω 0 0)), (2, .int a2), (3, .int r1)]) [2, 4, 1] rfl ?_
    exact b_L_act_143 h hR (CtOk.mono hcx (by omega)) _ _ _
  refine g_if (fun hc17 => ?_) (fun hc17 => ?_)
  · refine g_tsIn h 6 (off := 129) 155 hc17 dL_act_26 (by decide) (by decide) rfl (by decide) ?_
    refine g_sub (lv' := [(0, .ref (th ω 0 0)), (3, .int r1)]) [2, 1] rfl ?_
    exact b_L_act_155 h hR (CtOk.mono hcx (by omega)) _ _
  refine g_if (fun hc18 => ?_) (fun hc18 => ?_)
  · refine g_tsIn h 7 (off := 129) 155 hc18 dL_act_26 (by decide) (by decide) rfl (by decide) ?_
    refine g_sub (lv' := [(0, .ref (th ω 0 0)), (3, .int r1)]) [2, 1] rfl ?_
    exact b_L_act_155 h hR (CtOk.mono hcx (by omega)) _ _
  refine g_if (fun hc19 => ?_) (fun hc19 => ?_)
  · refine g_tsIn h 8 (off := 135) 161 hc19 dL_act_26 (by decide) (by decide) rfl (by decide) ?_
    refine g_iload_n h 4 dL_act_161 rfl rfl ?_
    refine g_iconst h 2 dL_act_162 (by decide) ?_
    refine g_callP h (As := [.int a2, .int 2]) (fun r t hG => c_L_low l ω M00 a2 2 hG) 2 rfl gL_act_L_low rfl rfl rfl (by decide +kernel) (by decide) (st0 := _) rfl (Nat.le_of_ble_eq_true rfl) dL_act_163 (fun r20 => ?_)
    refine g_if_ne h 177 dL_act_166 (by decide) (fun hc21 => ?_) (fun hc21 => ?_)
    · skip
      refine g_aload_n h 2 dL_act_169 rfl rfl ?_
      refine g_iload_n h 1 dL_act_170 rfl rfl ?_
      refine g_callI h (As := [.int r1]) (fun t => t) (fun r t hG => c_X5_stamp l ω _ r1 hG) iC_0_0 (C := RX5) (T := TX5) (N := 8) rfl 1 rfl gL_act_X5_stamp rfl rfl rfl (by decide +kernel) (by decide) (st0 := _) rfl (Nat.le_of_ble_eq_true rfl) dL_act_171 (fun r22 M23 => ?_)
      refine g_goto h (tgt := 189) dL_act_174 (by decide) ?_
      exact g_iret hR rfl dL_act_189
    · skip
      refine g_aload_n h 2 dL_act_177 rfl rfl ?_
      refine g_iload_n h 1 dL_act_178 rfl rfl ?_
      refine g_iload_n h 4 dL_act_179 rfl rfl ?_
      refine g_iconst h 1 dL_act_180 (by decide) ?_
      refine g_ishr h dL_act_181 ?_
      refine g_iconst h 3 dL_act_182 (by decide) ?_
      refine g_callP h (As := [.int (a2 >>> (1 &&& 31)), .int 3]) (fun r t hG => c_L_low l ω M00 (a2 >>> (1 &&& 31)) 3 hG) 2 rfl gL_act_L_low rfl rfl rfl (by decide +kernel) (by decide) (st0 := _) rfl (Nat.le_of_ble_eq_true rfl) dL_act_183 (fun r24 => ?_)
      refine g_callI h (As := [.int r1, .int r24]) (fun t => t) (fun r t hG => c_X5_boast l ω _ r1 r24 hG) iC_0_0 (C := RX5) (T := TX5) (N := 8) rfl 2 rfl gL_act_X5_boast rfl rfl rfl (by decide +kernel) (by decide) (st0 := _) rfl (Nat.le_of_ble_eq_true rfl) dL_act_186 (fun r25 M26 => ?_)
      exact g_iret hR rfl dL_act_189
  refine g_if (fun hc27 => ?_) (fun hc27 => ?_)
  · refine g_tsIn h 9 (off := 164) 190 hc27 dL_act_26 (by decide) (by decide) rfl (by decide) ?_
    refine g_sub (lv' := [(0, .ref (th ω 0 0)), (2, .int a2), (3, .int r1), (4, .int r2)]) [2, 4, 1, 0] rfl ?_
    exact b_L_act_190 h hR (CtOk.mono hcx (by omega)) _ _ _ _
  refine g_if (fun hc28 => ?_) (fun hc28 => ?_)
  · refine g_tsIn h 10 (off := 164) 190 hc28 dL_act_26 (by decide) (by decide) rfl (by decide) ?_
    refine g_sub (lv' := [(0, .ref (th ω 0 0)), (2, .int a2), (3, .int r1), (4, .int r2)]) [2, 4, 1, 0] rfl ?_
    exact b_L_act_190 h hR (CtOk.mono hcx (by omega)) _ _ _ _
  refine g_if (fun hc29 => ?_) (fun hc29 => ?_)
  · refine g_tsIn h 11 (off := 178) 204 hc29 dL_act_26 (by decide) (by decide) rfl (by decide) ?_
    refine g_sub (lv' := [(0, .ref (th ω 0 0)), (2, .int a2)]) [2, 4] rfl ?_
    exact b_L_act_204 h hR (CtOk.mono hcx (by omega)) _ _
  refine g_if (fun hc30 => ?_) (fun hc30 => ?_)
  · refine g_tsIn h 12 (off := 178) 204 hc30 dL_act_26 (by decide) (by decide) rfl (by decide) ?_
    refine g_sub (lv' := [(0, .ref (th ω 0 0)), (2, .int a2)]) [2, 4] rfl ?_
    exact b_L_act_204 h hR (CtOk.mono hcx (by omega)) _ _
  refine g_tsOut h 215 (by
      have e0 : ¬ Int32.toInt r3 = 0 := lv_neT hc4 (by decide)
      have e1 : ¬ Int32.toInt r3 = 1 := lv_neT hc5 (by decide)
      have e2 : ¬ Int32.toInt r3 = 2 := lv_neT hc6 (by decide)
      have e3 : ¬ Int32.toInt r3 = 3 := lv_neT hc11 (by decide)
      have e4 : ¬ Int32.toInt r3 = 4 := lv_neT hc15 (by decide)
      have e5 : ¬ Int32.toInt r3 = 5 := lv_neT hc16 (by decide)
      have e6 : ¬ Int32.toInt r3 = 6 := lv_neT hc17 (by decide)
      have e7 : ¬ Int32.toInt r3 = 7 := lv_neT hc18 (by decide)
      have e8 : ¬ Int32.toInt r3 = 8 := lv_neT hc19 (by decide)
      have e9 : ¬ Int32.toInt r3 = 9 := lv_neT hc27 (by decide)
      have e10 : ¬ Int32.toInt r3 = 10 := lv_neT hc28 (by decide)
      have e11 : ¬ Int32.toInt r3 = 11 := lv_neT hc29 (by decide)
      have e12 : ¬ Int32.toInt r3 = 12 := lv_neT hc30 (by decide)
      omega) dL_act_26 (by decide) ?_
  refine g_aload_n h 2 dL_act_215 rfl rfl ?_
  refine g_iload_n h 1 dL_act_216 rfl rfl ?_
  refine g_iload h 0 dL_act_217 rfl ?_
  refine g_iconst h 1 dL_act_219 (by decide) ?_
  refine g_iload_n h 4 dL_act_220 rfl rfl ?_
  refine g_bipush h 9 dL_act_221 (by decide) ?_
  refine g_callP h (As := [.int a2, .int 9]) (fun r t hG => c_L_low l ω M00 a2 9 hG) 2 rfl gL_act_L_low rfl rfl rfl (by decide +kernel) (by decide) (st0 := _) rfl (Nat.le_of_ble_eq_true rfl) dL_act_223 (fun r31 => ?_)
  refine g_iadd h dL_act_226 ?_
  refine g_callI h (As := [.int r1, .int r2, .int (1 + r31)]) (fun t => t) (fun r t hG => c_X5_strike l ω _ r1 r2 (1 + r31) hG) iC_0_0 (C := RX5) (T := TX5) (N := 8) rfl 3 rfl gL_act_X5_strike rfl rfl rfl (by decide +kernel) (by decide) (st0 := _) rfl (Nat.le_of_ble_eq_true rfl) dL_act_227 (fun r32 M33 => ?_)
  exact g_iret hR rfl dL_act_230
set_option maxHeartbeats 4000000 in
set_option maxRecDepth 100000 in
theorem b_L_conkers_442 {Γ : Cx} {l : Launch} {ω : Wd} {ct : Nat}  (h : CxOk Γ l ⟨5, 1, 3, 111⟩ 13 ω LH cL_conkers yL_conkers.cls wsL_conkers) (hR : RetI Γ ω LH cL_conkers .boolean) (hcx : CtOk Γ (ct + 0)) : ∀ (b2 : Int32) (s0 : Int32) (M : Mm), Gq ct Γ ω LH eI 442 [(0, .ref (th ω 0 0)), (2, .int b2)] [.int s0] M (m_L_conkers_442 b2 s0 M) := by
  intro b2 s0 M
  unfold m_L_conkers_442
  refine g_istore h (lv' := [(7, .int s0), (0, .ref (th ω 0 0)), (2, .int b2)]) dL_conkers_442 (by decide) [0, 1, 2] rfl ?_
  refine g_iload h 0 dL_conkers_444 rfl ?_
  refine g_if_eq h 469 dL_conkers_446 (by decide) (fun hc1 => ?_) (fun hc1 => ?_)
  · skip
    refine g_iconst h 0 dL_conkers_469 (by decide) ?_
    exact g_iret hR (by decide) dL_conkers_470
  · skip
    refine g_iload_n h 2 dL_conkers_449 rfl rfl ?_
    refine g_aload_n h 1 dL_conkers_450 rfl rfl ?_
    refine g_iconst h 5 dL_conkers_451 (by decide) ?_
    refine g_callH h (As := [.int 5]) (fun r t hG => c_X5_count l ω _ 5 hG) 1 rfl gL_conkers_X5_count rfl rfl rfl (by decide +kernel) (by decide) (st0 := _) rfl (Nat.le_of_ble_eq_true rfl) dL_conkers_452 (fun r2 M3 => ?_)
    refine g_nm (fun M4 => ?_)
    refine g_iadd h dL_conkers_455 ?_
    refine g_aload_n h 1 dL_conkers_456 rfl rfl ?_
    refine g_bipush h 7 dL_conkers_457 (by decide) ?_
    refine g_callH h (As := [.int 7]) (fun r t hG => c_X5_count l ω _ 7 hG) 1 rfl gL_conkers_X5_count rfl rfl rfl (by decide +kernel) (by decide) (st0 := _) rfl (Nat.le_of_ble_eq_true rfl) dL_conkers_459 (fun r5 M6 => ?_)
    refine g_nm (fun M7 => ?_)
    refine g_icmp_ne h 469 dL_conkers_462 (by decide) (fun hc8 => ?_) (fun hc8 => ?_)
    · skip
      refine g_iconst h 1 dL_conkers_465 (by decide) ?_
      refine g_goto h (tgt := 470) dL_conkers_466 (by decide) ?_
      exact g_iret hR (by decide) dL_conkers_470
    · skip
      refine g_iconst h 0 dL_conkers_469 (by decide) ?_
      exact g_iret hR (by decide) dL_conkers_470
set_option maxHeartbeats 4000000 in
set_option maxRecDepth 100000 in
theorem b_L_conkers_441 {Γ : Cx} {l : Launch} {ω : Wd} {ct : Nat}  (h : CxOk Γ l ⟨5, 1, 3, 111⟩ 13 ω LH cL_conkers yL_conkers.cls wsL_conkers) (hR : RetI Γ ω LH cL_conkers .boolean) (hcx : CtOk Γ (ct + 0)) : ∀ (b2 : Int32) (M : Mm), Gq ct Γ ω LH eI 441 [(0, .ref (th ω 0 0)), (2, .int b2)] [] M (m_L_conkers_441 b2 M) := by
  intro b2 M
  unfold m_L_conkers_441
  refine g_iconst h 0 dL_conkers_441 (by decide) ?_
  exact b_L_conkers_442 h hR (CtOk.mono hcx (by omega)) _ _ _
set_option maxHeartbeats 4000000 in
set_option maxRecDepth 100000 in
theorem b_L_conkers_324 {Γ : Cx} {l : Launch} {ω : Wd} {ct : Nat}  (h : CxOk Γ l ⟨5, 1, 3, 111⟩ 13 ω LH cL_conkers yL_conkers.cls wsL_conkers) (hR : RetI Γ ω LH cL_conkers .boolean) (hcx : CtOk Γ (ct + 0)) (κ20 : Int32 → Int32 → Int32 → Int32 → Int32 → Int32 → Mm → Option (Int32 × Mm)) (hκ20 : ∀ (b2 : Int32) (b3 : Int32) (b4 : Int32) (b5 : Int32) (b6 : Int32) (b7 : Int32) (M : Mm), Gq ct Γ ω LH eI 20 [(0, .ref (th ω 0 0)), (1, .ref (th ω 13 1)), (2, .int b2), (3, .int b3), (4, .int b4), (5, .int b5), (6, .int b6), (7, .int b7)] [] M (κ20 b2 b3 b4 b5 b6 b7 M)) : ∀ (b2 : Int32) (b3 : Int32) (b4 : Int32) (b5 : Int32) (b6 : Int32) (b7 : Int32) (b11 : Int32) (M : Mm), Gq ct Γ ω LH eI 324 [(0, .ref (th ω 0 0)), (1, .ref (th ω 13 1)), (2, .int b2), (3, .int b3), (4, .int b4), (5, .int b5), (6, .int b6), (7, .int b7), (11, .int b11)] [] M (m_L_conkers_324 κ20 b2 b3 b4 b5 b6 b7 b11 M) := by
  intro b2 b3 b4 b5 b6 b7 b11 M
  unfold m_L_conkers_324
  refine g_aload_n h 0 dL_conkers_324 rfl rfl ?_
  refine g_iload h 7 dL_conkers_325 rfl ?_
  refine g_callH h (As := [.int b7]) (fun r t hG => c_X5_line l ω _ b7 hG) 1 rfl gL_conkers_X5_line rfl rfl rfl (by decide +kernel) (by decide) (st0 := _) rfl (Nat.le_of_ble_eq_true rfl) dL_conkers_327 (fun r1 M2 => ?_)
  refine g_nm (fun M3 => ?_)
  refine g_iload h 8 dL_conkers_330 rfl ?_
  refine g_icmp_ne h 348 dL_conkers_332 (by decide) (fun hc4 => ?_) (fun hc4 => ?_)
  · skip
    refine g_aload_n h 0 dL_conkers_335 rfl rfl ?_
    refine g_iload h 7 dL_conkers_336 rfl ?_
    refine g_bipush h 8 dL_conkers_338 (by decide) ?_
    refine g_callH h (As := [.int b7, .int 8]) (fun r t hG => c_X5_conker l ω _ b7 8 hG) 2 rfl gL_conkers_X5_conker rfl rfl rfl (by decide +kernel) (by decide) (st0 := _) rfl (Nat.le_of_ble_eq_true rfl) dL_conkers_340 (fun r5 M6 => ?_)
    refine g_nm (fun M7 => ?_)
    refine g_iload h 8 dL_conkers_343 rfl ?_
    refine g_icmp_le h 350 dL_conkers_345 (by decide) (fun hc8 => ?_) (fun hc8 => ?_)
    · skip
      refine g_iinc h (b7 + 1) (lv' := [(7, .int (b7 + 1)), (0, .ref (th ω 0 0)), (1, .ref (th ω 13 1)), (2, .int b2), (3, .int b3), (4, .int b4), (5, .int b5), (6, .int b6), (11, .int b11)]) dL_conkers_350 7 rfl (congrArg (fun z => b7 + z) (by decide)) (by decide) [0, 1, 2, 3, 4, 5, 6, 7, 8] rfl ?_
      refine g_goto h (tgt := 20) dL_conkers_353 (by decide) ?_
      refine g_sub (lv' := [(0, .ref (th ω 0 0)), (1, .ref (th ω 13 1)), (2, .int b2), (3, .int b3), (4, .int b4), (5, .int b5), (6, .int b6), (7, .int (b7 + 1))]) [1, 2, 3, 4, 5, 6, 7, 0] rfl ?_
      exact hκ20 _ _ _ _ _ _ _
    · skip
      refine g_iconst h 0 dL_conkers_348 (by decide) ?_
      exact g_iret hR (by decide) dL_conkers_349
  · skip
    refine g_iconst h 0 dL_conkers_348 (by decide) ?_
    exact g_iret hR (by decide) dL_conkers_349
set_option maxHeartbeats 4000000 in
set_option maxRecDepth 100000 in
theorem b_L_conkers_278 {Γ : Cx} {l : Launch} {ω : Wd} {ct : Nat}  (h : CxOk Γ l ⟨5, 1, 3, 111⟩ 13 ω LH cL_conkers yL_conkers.cls wsL_conkers) (hR : RetI Γ ω LH cL_conkers .boolean) (hcx : CtOk Γ (ct + 0)) (κ20 : Int32 → Int32 → Int32 → Int32 → Int32 → Int32 → Mm → Option (Int32 × Mm)) (hκ20 : ∀ (b2 : Int32) (b3 : Int32) (b4 : Int32) (b5 : Int32) (b6 : Int32) (b7 : Int32) (M : Mm), Gq ct Γ ω LH eI 20 [(0, .ref (th ω 0 0)), (1, .ref (th ω 13 1)), (2, .int b2), (3, .int b3), (4, .int b4), (5, .int b5), (6, .int b6), (7, .int b7)] [] M (κ20 b2 b3 b4 b5 b6 b7 M)) : ∀ (b2 : Int32) (b3 : Int32) (b4 : Int32) (b5 : Int32) (b6 : Int32) (b7 : Int32) (b9 : Int32) (b11 : Int32) (M : Mm), Gq ct Γ ω LH eI 278 [(0, .ref (th ω 0 0)), (1, .ref (th ω 13 1)), (2, .int b2), (3, .int b3), (4, .int b4), (5, .int b5), (6, .int b6), (7, .int b7), (9, .int b9), (11, .int b11)] [] M (m_L_conkers_278 κ20 b2 b3 b4 b5 b6 b7 b9 b11 M) := by
  intro b2 b3 b4 b5 b6 b7 b9 b11 M
  unfold m_L_conkers_278
  refine g_aload_n h 0 dL_conkers_278 rfl rfl ?_
  refine g_iload h 7 dL_conkers_279 rfl ?_
  refine g_iconst h 2 dL_conkers_281 (by decide) ?_
  refine g_callH h (As := [.int b7, .int 2]) (fun r t hG => c_X5_conker l ω _ b7 2 hG) 2 rfl gL_conkers_X5_conker rfl rfl rfl (by decide +kernel) (by decide) (st0 := _) rfl (Nat.le_of_ble_eq_true rfl) dL_conkers_282 (fun r1 M2 => ?_)
  refine g_nm (fun M3 => ?_)
  refine g_bipush h 100 dL_conkers_285 (by decide) ?_
  refine g_icmp_gt h 348 dL_conkers_287 (by decide) (fun hc4 => ?_) (fun hc4 => ?_)
  · skip
    refine g_iconst h 0 dL_conkers_348 (by decide) ?_
    exact g_iret hR (by decide) dL_conkers_349
  · skip
    refine g_iload h 8 dL_conkers_290 rfl ?_
    refine g_if_lt h 324 dL_conkers_292 (by decide) (fun hc5 => ?_) (fun hc5 => ?_)
    · skip
      refine g_sub (lv' := [(0, .ref (th ω 0 0)), (1, .ref (th ω 13 1)), (2, .int b2), (3, .int b3), (4, .int b4), (5, .int b5), (6, .int b6), (7, .int b7), (11, .int b11)]) [0, 1, 2, 3, 4, 5, 6, 7, 9] rfl ?_
      exact b_L_conkers_324 h hR (CtOk.mono hcx (by omega)) _ hκ20 _ _ _ _ _ _ _ _
    · skip
      refine g_aload_n h 0 dL_conkers_295 rfl rfl ?_
      refine g_iload h 8 dL_conkers_296 rfl ?_
      refine g_iconst h 0 dL_conkers_298 (by decide) ?_
      refine g_callH h (As := [.int b9, .int 0]) (fun r t hG => c_X5_conker l ω _ b9 0 hG) 2 rfl gL_conkers_X5_conker rfl rfl rfl (by decide +kernel) (by decide) (st0 := _) rfl (Nat.le_of_ble_eq_true rfl) dL_conkers_299 (fun r6 M7 => ?_)
      refine g_nm (fun M8 => ?_)
      refine g_aload_n h 0 dL_conkers_302 rfl rfl ?_
      refine g_iload h 7 dL_conkers_303 rfl ?_
      refine g_iconst h 0 dL_conkers_305 (by decide) ?_
      refine g_callH h (As := [.int b7, .int 0]) (fun r t hG => c_X5_conker l ω _ b7 0 hG) 2 rfl gL_conkers_X5_conker rfl rfl rfl (by decide +kernel) (by decide) (st0 := _) rfl (Nat.le_of_ble_eq_true rfl) dL_conkers_306 (fun r9 M10 => ?_)
      refine g_nm (fun M11 => ?_)
      refine g_icmp_eq h 348 dL_conkers_309 (by decide) (fun hc12 => ?_) (fun hc12 => ?_)
      · skip
        refine g_iconst h 0 dL_conkers_348 (by decide) ?_
        exact g_iret hR (by decide) dL_conkers_349
      · skip
        refine g_aload_n h 0 dL_conkers_312 rfl rfl ?_
        refine g_iload h 7 dL_conkers_313 rfl ?_
        refine g_iconst h 2 dL_conkers_315 (by decide) ?_
        refine g_callH h (As := [.int b7, .int 2]) (fun r t hG => c_X5_conker l ω _ b7 2 hG) 2 rfl gL_conkers_X5_conker rfl rfl rfl (by decide +kernel) (by decide) (st0 := _) rfl (Nat.le_of_ble_eq_true rfl) dL_conkers_316 (fun r13 M14 => ?_)
        refine g_nm (fun M15 => ?_)
        refine g_bipush h 100 dL_conkers_319 (by decide) ?_
        refine g_icmp_ne h 348 dL_conkers_321 (by decide) (fun hc16 => ?_) (fun hc16 => ?_)
        · skip
          refine g_sub (lv' := [(0, .ref (th ω 0 0)), (1, .ref (th ω 13 1)), (2, .int b2), (3, .int b3), (4, .int b4), (5, .int b5), (6, .int b6), (7, .int b7), (11, .int b11)]) [0, 1, 2, 3, 4, 5, 6, 7, 9] rfl ?_
          exact b_L_conkers_324 h hR (CtOk.mono hcx (by omega)) _ hκ20 _ _ _ _ _ _ _ _
        · skip
          refine g_iconst h 0 dL_conkers_348 (by decide) ?_
          exact g_iret hR (by decide) dL_conkers_349
set_option maxHeartbeats 4000000 in
set_option maxRecDepth 100000 in
theorem b_L_conkers_260 {Γ : Cx} {l : Launch} {ω : Wd} {ct : Nat}  (h : CxOk Γ l ⟨5, 1, 3, 111⟩ 13 ω LH cL_conkers yL_conkers.cls wsL_conkers) (hR : RetI Γ ω LH cL_conkers .boolean) (hcx : CtOk Γ (ct + 0)) (κ20 : Int32 → Int32 → Int32 → Int32 → Int32 → Int32 → Mm → Option (Int32 × Mm)) (hκ20 : ∀ (b2 : Int32) (b3 : Int32) (b4 : Int32) (b5 : Int32) (b6 : Int32) (b7 : Int32) (M : Mm), Gq ct Γ ω LH eI 20 [(0, .ref (th ω 0 0)), (1, .ref (th ω 13 1)), (2, .int b2), (3, .int b3), (4, .int b4), (5, .int b5), (6, .int b6), (7, .int b7)] [] M (κ20 b2 b3 b4 b5 b6 b7 M)) : ∀ (b2 : Int32) (b3 : Int32) (b4 : Int32) (b5 : Int32) (b6 : Int32) (b7 : Int32) (b8 : Int32) (b9 : Int32) (b11 : Int32) (M : Mm), Gq ct Γ ω LH eI 260 [(0, .ref (th ω 0 0)), (1, .ref (th ω 13 1)), (2, .int b2), (3, .int b3), (4, .int b4), (5, .int b5), (6, .int b6), (7, .int b7), (8, .int b8), (9, .int b9), (11, .int b11)] [] M (m_L_conkers_260 κ20 b2 b3 b4 b5 b6 b7 b8 b9 b11 M) := by
  intro b2 b3 b4 b5 b6 b7 b8 b9 b11 M
  unfold m_L_conkers_260
  refine g_iload h 8 dL_conkers_260 rfl ?_
  refine g_iconst h 1 dL_conkers_262 (by decide) ?_
  refine g_icmp_ne h 278 dL_conkers_263 (by decide) (fun hc1 => ?_) (fun hc1 => ?_)
  · skip
    refine g_aload_n h 0 dL_conkers_266 rfl rfl ?_
    refine g_iload h 7 dL_conkers_267 rfl ?_
    refine g_iconst h 3 dL_conkers_269 (by decide) ?_
    refine g_callH h (As := [.int b7, .int 3]) (fun r t hG => c_X5_conker l ω _ b7 3 hG) 2 rfl gL_conkers_X5_conker rfl rfl rfl (by decide +kernel) (by decide) (st0 := _) rfl (Nat.le_of_ble_eq_true rfl) dL_conkers_270 (fun r2 M3 => ?_)
    refine g_nm (fun M4 => ?_)
    refine g_bipush h 20 dL_conkers_273 (by decide) ?_
    refine g_icmp_ne h 348 dL_conkers_275 (by decide) (fun hc5 => ?_) (fun hc5 => ?_)
    · skip
      refine g_sub (lv' := [(0, .ref (th ω 0 0)), (1, .ref (th ω 13 1)), (2, .int b2), (3, .int b3), (4, .int b4), (5, .int b5), (6, .int b6), (7, .int b7), (9, .int b9), (11, .int b11)]) [0, 1, 2, 3, 4, 5, 6, 7, 9, 10] rfl ?_
      exact b_L_conkers_278 h hR (CtOk.mono hcx (by omega)) _ hκ20 _ _ _ _ _ _ _ _ _
    · skip
      refine g_iconst h 0 dL_conkers_348 (by decide) ?_
      exact g_iret hR (by decide) dL_conkers_349
  · skip
    refine g_sub (lv' := [(0, .ref (th ω 0 0)), (1, .ref (th ω 13 1)), (2, .int b2), (3, .int b3), (4, .int b4), (5, .int b5), (6, .int b6), (7, .int b7), (9, .int b9), (11, .int b11)]) [0, 1, 2, 3, 4, 5, 6, 7, 9, 10] rfl ?_
    exact b_L_conkers_278 h hR (CtOk.mono hcx (by omega)) _ hκ20 _ _ _ _ _ _ _ _ _
set_option maxHeartbeats 4000000 in
set_option maxRecDepth 100000 in
theorem b_L_conkers_243 {Γ : Cx} {l : Launch} {ω : Wd} {ct : Nat}  (h : CxOk Γ l ⟨5, 1, 3, 111⟩ 13 ω LH cL_conkers yL_conkers.cls wsL_conkers) (hR : RetI Γ ω LH cL_conkers .boolean) (hcx : CtOk Γ (ct + 0)) (κ20 : Int32 → Int32 → Int32 → Int32 → Int32 → Int32 → Mm → Option (Int32 × Mm)) (hκ20 : ∀ (b2 : Int32) (b3 : Int32) (b4 : Int32) (b5 : Int32) (b6 : Int32) (b7 : Int32) (M : Mm), Gq ct Γ ω LH eI 20 [(0, .ref (th ω 0 0)), (1, .ref (th ω 13 1)), (2, .int b2), (3, .int b3), (4, .int b4), (5, .int b5), (6, .int b6), (7, .int b7)] [] M (κ20 b2 b3 b4 b5 b6 b7 M)) : ∀ (b2 : Int32) (b3 : Int32) (b4 : Int32) (b5 : Int32) (b6 : Int32) (b7 : Int32) (b8 : Int32) (b9 : Int32) (b11 : Int32) (M : Mm), Gq ct Γ ω LH eI 243 [(0, .ref (th ω 0 0)), (1, .ref (th ω 13 1)), (2, .int b2), (3, .int b3), (4, .int b4), (5, .int b5), (6, .int b6), (7, .int b7), (8, .int b8), (9, .int b9), (11, .int b11)] [] M (m_L_conkers_243 κ20 b2 b3 b4 b5 b6 b7 b8 b9 b11 M) := by
  intro b2 b3 b4 b5 b6 b7 b8 b9 b11 M
  unfold m_L_conkers_243
  refine g_iload h 8 dL_conkers_243 rfl ?_
  refine g_if_ne h 260 dL_conkers_245 (by decide) (fun hc1 => ?_) (fun hc1 => ?_)
  · skip
    refine g_aload_n h 0 dL_conkers_248 rfl rfl ?_
    refine g_iload h 7 dL_conkers_249 rfl ?_
    refine g_iconst h 3 dL_conkers_251 (by decide) ?_
    refine g_callH h (As := [.int b7, .int 3]) (fun r t hG => c_X5_conker l ω _ b7 3 hG) 2 rfl gL_conkers_X5_conker rfl rfl rfl (by decide +kernel) (by decide) (st0 := _) rfl (Nat.le_of_ble_eq_true rfl) dL_conkers_252 (fun r2 M3 => ?_)
    refine g_nm (fun M4 => ?_)
    refine g_bipush h 19 dL_conkers_255 (by decide) ?_
    refine g_icmp_gt h 348 dL_conkers_257 (by decide) (fun hc5 => ?_) (fun hc5 => ?_)
    · skip
      refine g_iconst h 0 dL_conkers_348 (by decide) ?_
      exact g_iret hR (by decide) dL_conkers_349
    · skip
      exact b_L_conkers_260 h hR (CtOk.mono hcx (by omega)) _ hκ20 _ _ _ _ _ _ _ _ _ _
  · skip
    exact b_L_conkers_260 h hR (CtOk.mono hcx (by omega)) _ hκ20 _ _ _ _ _ _ _ _ _ _
set_option maxHeartbeats 4000000 in
set_option maxRecDepth 100000 in
theorem b_L_conkers_187 {Γ : Cx} {l : Launch} {ω : Wd} {ct : Nat}  (h : CxOk Γ l ⟨5, 1, 3, 111⟩ 13 ω LH cL_conkers yL_conkers.cls wsL_conkers) (hR : RetI Γ ω LH cL_conkers .boolean) (hcx : CtOk Γ (ct + 0)) (κ20 : Int32 → Int32 → Int32 → Int32 → Int32 → Int32 → Mm → Option (Int32 × Mm)) (hκ20 : ∀ (b2 : Int32) (b3 : Int32) (b4 : Int32) (b5 : Int32) (b6 : Int32) (b7 : Int32) (M : Mm), Gq ct Γ ω LH eI 20 [(0, .ref (th ω 0 0)), (1, .ref (th ω 13 1)), (2, .int b2), (3, .int b3), (4, .int b4), (5, .int b5), (6, .int b6), (7, .int b7)] [] M (κ20 b2 b3 b4 b5 b6 b7 M)) (κ150 : Int32 → Int32 → Int32 → Int32 → Int32 → Int32 → Int32 → Int32 → Int32 → Int32 → Int32 → Mm → Option (Int32 × Mm)) (hκ150 : ∀ (b2 : Int32) (b3 : Int32) (b4 : Int32) (b5 : Int32) (b6 : Int32) (b7 : Int32) (b8 : Int32) (b9 : Int32) (b10 : Int32) (b11 : Int32) (b12 : Int32) (M : Mm), Gq ct Γ ω LH eI 150 [(0, .ref (th ω 0 0)), (1, .ref (th ω 13 1)), (2, .int b2), (3, .int b3), (4, .int b4), (5, .int b5), (6, .int b6), (7, .int b7), (8, .int b8), (9, .int b9), (10, .int b10), (11, .int b11), (12, .int b12)] [] M (κ150 b2 b3 b4 b5 b6 b7 b8 b9 b10 b11 b12 M)) : ∀ (b2 : Int32) (b3 : Int32) (b4 : Int32) (b5 : Int32) (b6 : Int32) (b7 : Int32) (b8 : Int32) (b9 : Int32) (b10 : Int32) (b12 : Int32) (s0 : Int32) (s1 : Int32) (M : Mm), Gq ct Γ ω LH eI 187 [(0, .ref (th ω 0 0)), (1, .ref (th ω 13 1)), (2, .int b2), (3, .int b3), (4, .int b4), (5, .int b5), (6, .int b6), (7, .int b7), (8, .int b8), (9, .int b9), (10, .int b10), (12, .int b12)] [.int s1, .int s0] M (m_L_conkers_187 κ20 κ150 b2 b3 b4 b5 b6 b7 b8 b9 b10 b12 s0 s1 M) := by
  intro b2 b3 b4 b5 b6 b7 b8 b9 b10 b12 s0 s1 M
  unfold m_L_conkers_187
  refine g_iadd h dL_conkers_187 ?_
  refine g_istore h (lv' := [(11, .int (s0 + s1)), (0, .ref (th ω 0 0)), (1, .ref (th ω 13 1)), (2, .int b2), (3, .int b3), (4, .int b4), (5, .int b5), (6, .int b6), (7, .int b7), (8, .int b8), (9, .int b9), (10, .int b10), (12, .int b12)]) dL_conkers_188 (by decide) [0, 1, 2, 3, 4, 5, 6, 7, 8, 9, 10, 11, 12] rfl ?_
  refine g_iinc h (b12 + 1) (lv' := [(12, .int (b12 + 1)), (11, .int (s0 + s1)), (0, .ref (th ω 0 0)), (1, .ref (th ω 13 1)), (2, .int b2), (3, .int b3), (4, .int b4), (5, .int b5), (6, .int b6), (7, .int b7), (8, .int b8), (9, .int b9), (10, .int b10)]) dL_conkers_190 12 rfl (congrArg (fun z => b12 + z) (by decide)) (by decide) [0, 1, 2, 3, 4, 5, 6, 7, 8, 9, 10, 11, 12] rfl ?_
  refine g_goto h (tgt := 150) dL_conkers_193 (by decide) ?_
  refine g_sub (lv' := [(0, .ref (th ω 0 0)), (1, .ref (th ω 13 1)), (2, .int b2), (3, .int b3), (4, .int b4), (5, .int b5), (6, .int b6), (7, .int b7), (8, .int b8), (9, .int b9), (10, .int b10), (11, .int (s0 + s1)), (12, .int (b12 + 1))]) [2, 3, 4, 5, 6, 7, 8, 9, 10, 11, 12, 1, 0] rfl ?_
  exact hκ150 _ _ _ _ _ _ _ _ _ _ _ _
set_option maxHeartbeats 4000000 in
set_option maxRecDepth 100000 in
theorem b_L_conkers_150 {Γ : Cx} {l : Launch} {ω : Wd} {ct : Nat}  (h : CxOk Γ l ⟨5, 1, 3, 111⟩ 13 ω LH cL_conkers yL_conkers.cls wsL_conkers) (hR : RetI Γ ω LH cL_conkers .boolean) (hcx : CtOk Γ (ct + 0)) (κ20 : Int32 → Int32 → Int32 → Int32 → Int32 → Int32 → Mm → Option (Int32 × Mm)) (hκ20 : ∀ (b2 : Int32) (b3 : Int32) (b4 : Int32) (b5 : Int32) (b6 : Int32) (b7 : Int32) (M : Mm), Gq ct Γ ω LH eI 20 [(0, .ref (th ω 0 0)), (1, .ref (th ω 13 1)), (2, .int b2), (3, .int b3), (4, .int b4), (5, .int b5), (6, .int b6), (7, .int b7)] [] M (κ20 b2 b3 b4 b5 b6 b7 M)) : ∀ (n : Nat) (b2 : Int32) (b3 : Int32) (b4 : Int32) (b5 : Int32) (b6 : Int32) (b7 : Int32) (b8 : Int32) (b9 : Int32) (b10 : Int32) (b11 : Int32) (b12 : Int32) (M : Mm), Gq ct Γ ω LH eI 150 [(0, .ref (th ω 0 0)), (1, .ref (th ω 13 1)), (2, .int b2), (3, .int b3), (4, .int b4), (5, .int b5), (6, .int b6), (7, .int b7), (8, .int b8), (9, .int b9), (10, .int b10), (11, .int b11), (12, .int b12)] [] M (m_L_conkers_150 κ20 n b2 b3 b4 b5 b6 b7 b8 b9 b10 b11 b12 M) := by
  intro n
  induction n with
  | zero =>
    intro b2 b3 b4 b5 b6 b7 b8 b9 b10 b11 b12 M
    rw [m_L_conkers_150.eq_1]
    exact g_none
  | succ n ih =>
    intro b2 b3 b4 b5 b6 b7 b8 b9 b10 b11 b12 M
    rw [m_L_conkers_150.eq_2]
    refine g_iload h 12 dL_conkers_150 rfl ?_
    refine g_aload_n h 0 dL_conkers_152 rfl rfl ?_
    refine g_iconst h 0 dL_conkers_153 (by decide) ?_
    refine g_callH h (As := [.int 0]) (fun r t hG => c_X5_count l ω _ 0 hG) 1 rfl gL_conkers_X5_count rfl rfl rfl (by decide +kernel) (by decide) (st0 := _) rfl (Nat.le_of_ble_eq_true rfl) dL_conkers_154 (fun r1 M2 => ?_)
    refine g_nm (fun M3 => ?_)
    refine g_icmp_ge h 196 dL_conkers_157 (by decide) (fun hc4 => ?_) (fun hc4 => ?_)
    · skip
      refine g_iload h 8 dL_conkers_196 rfl ?_
      refine g_iconst h 2 dL_conkers_198 (by decide) ?_
      refine g_icmp_ne h 222 dL_conkers_199 (by decide) (fun hc5 => ?_) (fun hc5 => ?_)
      · skip
        refine g_aload_n h 0 dL_conkers_202 rfl rfl ?_
        refine g_iload h 7 dL_conkers_203 rfl ?_
        refine g_iconst h 4 dL_conkers_205 (by decide) ?_
        refine g_callH h (As := [.int b7, .int 4]) (fun r t hG => c_X5_conker l ω _ b7 4 hG) 2 rfl gL_conkers_X5_conker rfl rfl rfl (by decide +kernel) (by decide) (st0 := _) rfl (Nat.le_of_ble_eq_true rfl) dL_conkers_206 (fun r6 M7 => ?_)
        refine g_nm (fun M8 => ?_)
        refine g_if_ne h 241 dL_conkers_209 (by decide) (fun hc9 => ?_) (fun hc9 => ?_)
        · skip
          refine g_iload h 10 dL_conkers_212 rfl ?_
          refine g_bipush h (-5) dL_conkers_214 (by decide) ?_
          refine g_icmp_eq h 243 dL_conkers_216 (by decide) (fun hc10 => ?_) (fun hc10 => ?_)
          · skip
            refine g_sub (lv' := [(0, .ref (th ω 0 0)), (1, .ref (th ω 13 1)), (2, .int b2), (3, .int b3), (4, .int b4), (5, .int b5), (6, .int b6), (7, .int b7), (8, .int b8), (9, .int b9), (11, .int b11)]) [0, 1, 2, 3, 4, 5, 6, 7, 8, 9, 11] rfl ?_
            exact b_L_conkers_243 h hR (CtOk.mono hcx (by omega)) _ hκ20 _ _ _ _ _ _ _ _ _ _
          · skip
            refine g_goto h (tgt := 241) dL_conkers_219 (by decide) ?_
            refine g_iconst h 0 dL_conkers_241 (by decide) ?_
            exact g_iret hR (by decide) dL_conkers_242
        · skip
          refine g_iconst h 0 dL_conkers_241 (by decide) ?_
          exact g_iret hR (by decide) dL_conkers_242
      · skip
        refine g_iload h 9 dL_conkers_222 rfl ?_
        refine g_bipush h (-5) dL_conkers_224 (by decide) ?_
        refine g_icmp_ne h 241 dL_conkers_226 (by decide) (fun hc11 => ?_) (fun hc11 => ?_)
        · skip
          refine g_aload_n h 0 dL_conkers_229 rfl rfl ?_
          refine g_iload h 7 dL_conkers_230 rfl ?_
          refine g_iconst h 2 dL_conkers_232 (by decide) ?_
          refine g_callH h (As := [.int b7, .int 2]) (fun r t hG => c_X5_conker l ω _ b7 2 hG) 2 rfl gL_conkers_X5_conker rfl rfl rfl (by decide +kernel) (by decide) (st0 := _) rfl (Nat.le_of_ble_eq_true rfl) dL_conkers_233 (fun r12 M13 => ?_)
          refine g_nm (fun M14 => ?_)
          refine g_bipush h 99 dL_conkers_236 (by decide) ?_
          refine g_icmp_le h 243 dL_conkers_238 (by decide) (fun hc15 => ?_) (fun hc15 => ?_)
          · skip
            refine g_sub (lv' := [(0, .ref (th ω 0 0)), (1, .ref (th ω 13 1)), (2, .int b2), (3, .int b3), (4, .int b4), (5, .int b5), (6, .int b6), (7, .int b7), (8, .int b8), (9, .int b9), (11, .int b11)]) [0, 1, 2, 3, 4, 5, 6, 7, 8, 9, 11] rfl ?_
            exact b_L_conkers_243 h hR (CtOk.mono hcx (by omega)) _ hκ20 _ _ _ _ _ _ _ _ _ _
          · skip
            refine g_iconst h 0 dL_conkers_241 (by decide) ?_
            exact g_iret hR (by decide) dL_conkers_242
        · skip
          refine g_iconst h 0 dL_conkers_241 (by decide) ?_
          exact g_iret hR (by decide) dL_conkers_242
    · skip
      refine g_iload h 11 dL_conkers_160 rfl ?_
      refine g_aload_n h 0 dL_conkers_162 rfl rfl ?_
      refine g_iload h 12 dL_conkers_163 rfl ?_
      refine g_bipush h 7 dL_conkers_165 (by decide) ?_
      refine g_callH h (As := [.int b12, .int 7]) (fun r t hG => c_X5_conker l ω _ b12 7 hG) 2 rfl gL_conkers_X5_conker rfl rfl rfl (by decide +kernel) (by decide) (st0 := _) rfl (Nat.le_of_ble_eq_true rfl) dL_conkers_167 (fun r16 M17 => ?_)
      refine g_nm (fun M18 => ?_)
      refine g_iload h 7 dL_conkers_170 rfl ?_
      refine g_icmp_ne h 186 dL_conkers_172 (by decide) (fun hc19 => ?_) (fun hc19 => ?_)
      · skip
        refine g_iconst h 1 dL_conkers_175 (by decide) ?_
        refine g_aload_n h 0 dL_conkers_176 rfl rfl ?_
        refine g_iload h 12 dL_conkers_177 rfl ?_
        refine g_callH h (As := [.int b12]) (fun r t hG => c_X5_line l ω _ b12 hG) 1 rfl gL_conkers_X5_line rfl rfl rfl (by decide +kernel) (by decide) (st0 := _) rfl (Nat.le_of_ble_eq_true rfl) dL_conkers_179 (fun r20 M21 => ?_)
        refine g_nm (fun M22 => ?_)
        refine g_iadd h dL_conkers_182 ?_
        refine g_goto h (tgt := 187) dL_conkers_183 (by decide) ?_
        refine g_sub (lv' := [(0, .ref (th ω 0 0)), (1, .ref (th ω 13 1)), (2, .int b2), (3, .int b3), (4, .int b4), (5, .int b5), (6, .int b6), (7, .int b7), (8, .int b8), (9, .int b9), (10, .int b10), (12, .int b12)]) [0, 1, 2, 3, 4, 5, 6, 7, 8, 9, 10, 12] rfl ?_
        exact b_L_conkers_187 h hR (CtOk.mono hcx (by omega)) _ hκ20 _ ih _ _ _ _ _ _ _ _ _ _ _ _ _
      · skip
        refine g_iconst h 0 dL_conkers_186 (by decide) ?_
        refine g_sub (lv' := [(0, .ref (th ω 0 0)), (1, .ref (th ω 13 1)), (2, .int b2), (3, .int b3), (4, .int b4), (5, .int b5), (6, .int b6), (7, .int b7), (8, .int b8), (9, .int b9), (10, .int b10), (12, .int b12)]) [0, 1, 2, 3, 4, 5, 6, 7, 8, 9, 10, 12] rfl ?_
        exact b_L_conkers_187 h hR (CtOk.mono hcx (by omega)) _ hκ20 _ ih _ _ _ _ _ _ _ _ _ _ _ _ _
set_option maxHeartbeats 4000000 in
set_option maxRecDepth 100000 in
theorem b_L_conkers_128 {Γ : Cx} {l : Launch} {ω : Wd} {ct : Nat}  (h : CxOk Γ l ⟨5, 1, 3, 111⟩ 13 ω LH cL_conkers yL_conkers.cls wsL_conkers) (hR : RetI Γ ω LH cL_conkers .boolean) (hcx : CtOk Γ (ct + 0)) (κ20 : Int32 → Int32 → Int32 → Int32 → Int32 → Int32 → Mm → Option (Int32 × Mm)) (hκ20 : ∀ (b2 : Int32) (b3 : Int32) (b4 : Int32) (b5 : Int32) (b6 : Int32) (b7 : Int32) (M : Mm), Gq ct Γ ω LH eI 20 [(0, .ref (th ω 0 0)), (1, .ref (th ω 13 1)), (2, .int b2), (3, .int b3), (4, .int b4), (5, .int b5), (6, .int b6), (7, .int b7)] [] M (κ20 b2 b3 b4 b5 b6 b7 M)) : ∀ (b2 : Int32) (b3 : Int32) (b4 : Int32) (b6 : Int32) (b7 : Int32) (b8 : Int32) (b9 : Int32) (b10 : Int32) (s0 : Int32) (s1 : Int32) (M : Mm), Gq ct Γ ω LH eI 128 [(0, .ref (th ω 0 0)), (1, .ref (th ω 13 1)), (2, .int b2), (3, .int b3), (4, .int b4), (6, .int b6), (7, .int b7), (8, .int b8), (9, .int b9), (10, .int b10)] [.int s1, .int s0] M (m_L_conkers_128 κ20 b2 b3 b4 b6 b7 b8 b9 b10 s0 s1 M) := by
  intro b2 b3 b4 b6 b7 b8 b9 b10 s0 s1 M
  unfold m_L_conkers_128
  refine g_iadd h dL_conkers_128 ?_
  refine g_istore h (lv' := [(5, .int (s0 + s1)), (0, .ref (th ω 0 0)), (1, .ref (th ω 13 1)), (2, .int b2), (3, .int b3), (4, .int b4), (6, .int b6), (7, .int b7), (8, .int b8), (9, .int b9), (10, .int b10)]) dL_conkers_129 (by decide) [0, 1, 2, 3, 4, 5, 6, 7, 8, 9, 10] rfl ?_
  refine g_iload h 6 dL_conkers_131 rfl ?_
  refine g_aload_n h 1 dL_conkers_133 rfl rfl ?_
  refine g_iload h 7 dL_conkers_134 rfl ?_
  refine g_bipush h 8 dL_conkers_136 (by decide) ?_
  refine g_callH h (As := [.int b7, .int 8]) (fun r t hG => c_X5_conker l ω _ b7 8 hG) 2 rfl gL_conkers_X5_conker rfl rfl rfl (by decide +kernel) (by decide) (st0 := _) rfl (Nat.le_of_ble_eq_true rfl) dL_conkers_138 (fun r1 M2 => ?_)
  refine g_nm (fun M3 => ?_)
  refine g_iadd h dL_conkers_141 ?_
  refine g_istore h (lv' := [(6, .int (b6 + r1)), (5, .int (s0 + s1)), (0, .ref (th ω 0 0)), (1, .ref (th ω 13 1)), (2, .int b2), (3, .int b3), (4, .int b4), (7, .int b7), (8, .int b8), (9, .int b9), (10, .int b10)]) dL_conkers_142 (by decide) [0, 1, 2, 3, 4, 5, 6, 7, 8, 9, 10] rfl ?_
  refine g_iconst h 0 dL_conkers_144 (by decide) ?_
  refine g_istore h (lv' := [(11, .int 0), (6, .int (b6 + r1)), (5, .int (s0 + s1)), (0, .ref (th ω 0 0)), (1, .ref (th ω 13 1)), (2, .int b2), (3, .int b3), (4, .int b4), (7, .int b7), (8, .int b8), (9, .int b9), (10, .int b10)]) dL_conkers_145 (by decide) [0, 1, 2, 3, 4, 5, 6, 7, 8, 9, 10, 11] rfl ?_
  refine g_iconst h 0 dL_conkers_147 (by decide) ?_
  refine g_istore h (lv' := [(12, .int 0), (11, .int 0), (6, .int (b6 + r1)), (5, .int (s0 + s1)), (0, .ref (th ω 0 0)), (1, .ref (th ω 13 1)), (2, .int b2), (3, .int b3), (4, .int b4), (7, .int b7), (8, .int b8), (9, .int b9), (10, .int b10)]) dL_conkers_148 (by decide) [0, 1, 2, 3, 4, 5, 6, 7, 8, 9, 10, 11, 12] rfl ?_
  refine g_sub (lv' := [(0, .ref (th ω 0 0)), (1, .ref (th ω 13 1)), (2, .int b2), (3, .int b3), (4, .int b4), (5, .int (s0 + s1)), (6, .int (b6 + r1)), (7, .int b7), (8, .int b8), (9, .int b9), (10, .int b10), (11, .int 0), (12, .int 0)]) [4, 5, 6, 7, 8, 3, 2, 9, 10, 11, 12, 1, 0] rfl ?_
  exact b_L_conkers_150 h hR (CtOk.mono hcx (by omega)) _ hκ20 fu _ _ _ _ _ _ _ _ _ _ _ _
set_option maxHeartbeats 4000000 in
set_option maxRecDepth 100000 in
theorem b_L_conkers_111 {Γ : Cx} {l : Launch} {ω : Wd} {ct : Nat}  (h : CxOk Γ l ⟨5, 1, 3, 111⟩ 13 ω LH cL_conkers yL_conkers.cls wsL_conkers) (hR : RetI Γ ω LH cL_conkers .boolean) (hcx : CtOk Γ (ct + 0)) (κ20 : Int32 → Int32 → Int32 → Int32 → Int32 → Int32 → Mm → Option (Int32 × Mm)) (hκ20 : ∀ (b2 : Int32) (b3 : Int32) (b4 : Int32) (b5 : Int32) (b6 : Int32) (b7 : Int32) (M : Mm), Gq ct Γ ω LH eI 20 [(0, .ref (th ω 0 0)), (1, .ref (th ω 13 1)), (2, .int b2), (3, .int b3), (4, .int b4), (5, .int b5), (6, .int b6), (7, .int b7)] [] M (κ20 b2 b3 b4 b5 b6 b7 M)) : ∀ (b2 : Int32) (b3 : Int32) (b5 : Int32) (b6 : Int32) (b7 : Int32) (b8 : Int32) (b9 : Int32) (b10 : Int32) (s0 : Int32) (s1 : Int32) (M : Mm), Gq ct Γ ω LH eI 111 [(0, .ref (th ω 0 0)), (1, .ref (th ω 13 1)), (2, .int b2), (3, .int b3), (5, .int b5), (6, .int b6), (7, .int b7), (8, .int b8), (9, .int b9), (10, .int b10)] [.int s1, .int s0] M (m_L_conkers_111 κ20 b2 b3 b5 b6 b7 b8 b9 b10 s0 s1 M) := by
  intro b2 b3 b5 b6 b7 b8 b9 b10 s0 s1 M
  unfold m_L_conkers_111
  refine g_iadd h dL_conkers_111 ?_
  refine g_istore h (lv' := [(4, .int (s0 + s1)), (0, .ref (th ω 0 0)), (1, .ref (th ω 13 1)), (2, .int b2), (3, .int b3), (5, .int b5), (6, .int b6), (7, .int b7), (8, .int b8), (9, .int b9), (10, .int b10)]) dL_conkers_112 (by decide) [0, 1, 2, 3, 4, 5, 6, 7, 8, 9, 10] rfl ?_
  refine g_iload h 5 dL_conkers_114 rfl ?_
  refine g_iload h 9 dL_conkers_116 rfl ?_
  refine g_bipush h (-5) dL_conkers_118 (by decide) ?_
  refine g_icmp_ne h 127 dL_conkers_120 (by decide) (fun hc1 => ?_) (fun hc1 => ?_)
  · skip
    refine g_iconst h 0 dL_conkers_123 (by decide) ?_
    refine g_goto h (tgt := 128) dL_conkers_124 (by decide) ?_
    refine g_sub (lv' := [(0, .ref (th ω 0 0)), (1, .ref (th ω 13 1)), (2, .int b2), (3, .int b3), (4, .int (s0 + s1)), (6, .int b6), (7, .int b7), (8, .int b8), (9, .int b9), (10, .int b10)]) [1, 2, 3, 4, 0, 6, 7, 8, 9, 10] rfl ?_
    exact b_L_conkers_128 h hR (CtOk.mono hcx (by omega)) _ hκ20 _ _ _ _ _ _ _ _ _ _ _
  · skip
    refine g_iconst h 1 dL_conkers_127 (by decide) ?_
    refine g_sub (lv' := [(0, .ref (th ω 0 0)), (1, .ref (th ω 13 1)), (2, .int b2), (3, .int b3), (4, .int (s0 + s1)), (6, .int b6), (7, .int b7), (8, .int b8), (9, .int b9), (10, .int b10)]) [1, 2, 3, 4, 0, 6, 7, 8, 9, 10] rfl ?_
    exact b_L_conkers_128 h hR (CtOk.mono hcx (by omega)) _ hκ20 _ _ _ _ _ _ _ _ _ _ _
set_option maxHeartbeats 4000000 in
set_option maxRecDepth 100000 in
theorem b_L_conkers_90 {Γ : Cx} {l : Launch} {ω : Wd} {ct : Nat}  (h : CxOk Γ l ⟨5, 1, 3, 111⟩ 13 ω LH cL_conkers yL_conkers.cls wsL_conkers) (hR : RetI Γ ω LH cL_conkers .boolean) (hcx : CtOk Γ (ct + 0)) (κ20 : Int32 → Int32 → Int32 → Int32 → Int32 → Int32 → Mm → Option (Int32 × Mm)) (hκ20 : ∀ (b2 : Int32) (b3 : Int32) (b4 : Int32) (b5 : Int32) (b6 : Int32) (b7 : Int32) (M : Mm), Gq ct Γ ω LH eI 20 [(0, .ref (th ω 0 0)), (1, .ref (th ω 13 1)), (2, .int b2), (3, .int b3), (4, .int b4), (5, .int b5), (6, .int b6), (7, .int b7)] [] M (κ20 b2 b3 b4 b5 b6 b7 M)) : ∀ (b2 : Int32) (b4 : Int32) (b5 : Int32) (b6 : Int32) (b7 : Int32) (b8 : Int32) (b9 : Int32) (b10 : Int32) (s0 : Int32) (s1 : Int32) (M : Mm), Gq ct Γ ω LH eI 90 [(0, .ref (th ω 0 0)), (1, .ref (th ω 13 1)), (2, .int b2), (4, .int b4), (5, .int b5), (6, .int b6), (7, .int b7), (8, .int b8), (9, .int b9), (10, .int b10)] [.int s1, .int s0] M (m_L_conkers_90 κ20 b2 b4 b5 b6 b7 b8 b9 b10 s0 s1 M) := by
  intro b2 b4 b5 b6 b7 b8 b9 b10 s0 s1 M
  unfold m_L_conkers_90
  refine g_iadd h dL_conkers_90 ?_
  refine g_istore_n h rfl (lv' := [(3, .int (s0 + s1)), (0, .ref (th ω 0 0)), (1, .ref (th ω 13 1)), (2, .int b2), (4, .int b4), (5, .int b5), (6, .int b6), (7, .int b7), (8, .int b8), (9, .int b9), (10, .int b10)]) dL_conkers_91 (by decide) [0, 1, 2, 3, 4, 5, 6, 7, 8, 9, 10] rfl ?_
  refine g_iload h 4 dL_conkers_92 rfl ?_
  refine g_iload h 10 dL_conkers_94 rfl ?_
  refine g_aload_n h 1 dL_conkers_96 rfl rfl ?_
  refine g_iload h 7 dL_conkers_97 rfl ?_
  refine g_iconst h 4 dL_conkers_99 (by decide) ?_
  refine g_callH h (As := [.int b7, .int 4]) (fun r t hG => c_X5_conker l ω _ b7 4 hG) 2 rfl gL_conkers_X5_conker rfl rfl rfl (by decide +kernel) (by decide) (st0 := _) rfl (Nat.le_of_ble_eq_true rfl) dL_conkers_100 (fun r1 M2 => ?_)
  refine g_nm (fun M3 => ?_)
  refine g_icmp_le h 110 dL_conkers_103 (by decide) (fun hc4 => ?_) (fun hc4 => ?_)
  · skip
    refine g_iconst h 0 dL_conkers_110 (by decide) ?_
    refine g_sub (lv' := [(0, .ref (th ω 0 0)), (1, .ref (th ω 13 1)), (2, .int b2), (3, .int (s0 + s1)), (5, .int b5), (6, .int b6), (7, .int b7), (8, .int b8), (9, .int b9), (10, .int b10)]) [1, 2, 3, 0, 5, 6, 7, 8, 9, 10] rfl ?_
    exact b_L_conkers_111 h hR (CtOk.mono hcx (by omega)) _ hκ20 _ _ _ _ _ _ _ _ _ _ _
  · skip
    refine g_iconst h 1 dL_conkers_106 (by decide) ?_
    refine g_goto h (tgt := 111) dL_conkers_107 (by decide) ?_
    refine g_sub (lv' := [(0, .ref (th ω 0 0)), (1, .ref (th ω 13 1)), (2, .int b2), (3, .int (s0 + s1)), (5, .int b5), (6, .int b6), (7, .int b7), (8, .int b8), (9, .int b9), (10, .int b10)]) [1, 2, 3, 0, 5, 6, 7, 8, 9, 10] rfl ?_
    exact b_L_conkers_111 h hR (CtOk.mono hcx (by omega)) _ hκ20 _ _ _ _ _ _ _ _ _ _ _
set_option maxHeartbeats 4000000 in
set_option maxRecDepth 100000 in
theorem b_L_conkers_20 {Γ : Cx} {l : Launch} {ω : Wd} {ct : Nat}  (h : CxOk Γ l ⟨5, 1, 3, 111⟩ 13 ω LH cL_conkers yL_conkers.cls wsL_conkers) (hR : RetI Γ ω LH cL_conkers .boolean) (hcx : CtOk Γ (ct + 0)) : ∀ (n : Nat) (b2 : Int32) (b3 : Int32) (b4 : Int32) (b5 : Int32) (b6 : Int32) (b7 : Int32) (M : Mm), Gq ct Γ ω LH eI 20 [(0, .ref (th ω 0 0)), (1, .ref (th ω 13 1)), (2, .int b2), (3, .int b3), (4, .int b4), (5, .int b5), (6, .int b6), (7, .int b7)] [] M (m_L_conkers_20 n b2 b3 b4 b5 b6 b7 M) := by
  intro n
  induction n with
  | zero =>
    intro b2 b3 b4 b5 b6 b7 M
    rw [m_L_conkers_20.eq_1]
    exact g_none
  | succ n ih =>
    intro b2 b3 b4 b5 b6 b7 M
    rw [m_L_conkers_20.eq_2]
    refine g_iload h 7 dL_conkers_20 rfl ?_
    refine g_aload_n h 0 dL_conkers_22 rfl rfl ?_
    refine g_iconst h 0 dL_conkers_23 (by decide) ?_
    refine g_callH h (As := [.int 0]) (fun r t hG => c_X5_count l ω _ 0 hG) 1 rfl gL_conkers_X5_count rfl rfl rfl (by decide +kernel) (by decide) (st0 := _) rfl (Nat.le_of_ble_eq_true rfl) dL_conkers_24 (fun r1 M2 => ?_)
    refine g_nm (fun M3 => ?_)
    refine g_icmp_ge h 356 dL_conkers_27 (by decide) (fun hc4 => ?_) (fun hc4 => ?_)
    · skip
      refine g_aload_n h 0 dL_conkers_356 rfl rfl ?_
      refine g_iconst h 1 dL_conkers_357 (by decide) ?_
      refine g_callH h (As := [.int 1]) (fun r t hG => c_X5_count l ω _ 1 hG) 1 rfl gL_conkers_X5_count rfl rfl rfl (by decide +kernel) (by decide) (st0 := _) rfl (Nat.le_of_ble_eq_true rfl) dL_conkers_358 (fun r5 M6 => ?_)
      refine g_nm (fun M7 => ?_)
      refine g_aload_n h 1 dL_conkers_361 rfl rfl ?_
      refine g_iconst h 0 dL_conkers_362 (by decide) ?_
      refine g_iald h (v := M7 13 1 ((0 : Int32).toNatClampNeg)) rfl iH_13_1 dL_conkers_363 ?_
      refine g_ni (fun v8 => ?_)
      refine g_icmp_ne h 441 dL_conkers_364 (by decide) (fun hc9 => ?_) (fun hc9 => ?_)
      · skip
        refine g_aload_n h 0 dL_conkers_367 rfl rfl ?_
        refine g_iconst h 2 dL_conkers_368 (by decide) ?_
        refine g_callH h (As := [.int 2]) (fun r t hG => c_X5_count l ω _ 2 hG) 1 rfl gL_conkers_X5_count rfl rfl rfl (by decide +kernel) (by decide) (st0 := _) rfl (Nat.le_of_ble_eq_true rfl) dL_conkers_369 (fun r10 M11 => ?_)
        refine g_nm (fun M12 => ?_)
        refine g_aload_n h 1 dL_conkers_372 rfl rfl ?_
        refine g_iconst h 1 dL_conkers_373 (by decide) ?_
        refine g_iald h (v := M12 13 1 ((1 : Int32).toNatClampNeg)) rfl iH_13_1 dL_conkers_374 ?_
        refine g_ni (fun v13 => ?_)
        refine g_icmp_ne h 441 dL_conkers_375 (by decide) (fun hc14 => ?_) (fun hc14 => ?_)
        · skip
          refine g_aload_n h 0 dL_conkers_378 rfl rfl ?_
          refine g_iconst h 3 dL_conkers_379 (by decide) ?_
          refine g_callH h (As := [.int 3]) (fun r t hG => c_X5_count l ω _ 3 hG) 1 rfl gL_conkers_X5_count rfl rfl rfl (by decide +kernel) (by decide) (st0 := _) rfl (Nat.le_of_ble_eq_true rfl) dL_conkers_380 (fun r15 M16 => ?_)
          refine g_nm (fun M17 => ?_)
          refine g_aload_n h 1 dL_conkers_383 rfl rfl ?_
          refine g_iconst h 2 dL_conkers_384 (by decide) ?_
          refine g_iald h (v := M17 13 1 ((2 : Int32).toNatClampNeg)) rfl iH_13_1 dL_conkers_385 ?_
          refine g_ni (fun v18 => ?_)
          refine g_icmp_ne h 441 dL_conkers_386 (by decide) (fun hc19 => ?_) (fun hc19 => ?_)
          · skip
            refine g_aload_n h 0 dL_conkers_389 rfl rfl ?_
            refine g_iconst h 4 dL_conkers_390 (by decide) ?_
            refine g_callH h (As := [.int 4]) (fun r t hG => c_X5_count l ω _ 4 hG) 1 rfl gL_conkers_X5_count rfl rfl rfl (by decide +kernel) (by decide) (st0 := _) rfl (Nat.le_of_ble_eq_true rfl) dL_conkers_391 (fun r20 M21 => ?_)
            refine g_nm (fun M22 => ?_)
            refine g_iload_n h 2 dL_conkers_394 rfl rfl ?_
            refine g_icmp_ne h 441 dL_conkers_395 (by decide) (fun hc23 => ?_) (fun hc23 => ?_)
            · skip
              refine g_aload_n h 0 dL_conkers_398 rfl rfl ?_
              refine g_bipush h 8 dL_conkers_399 (by decide) ?_
              refine g_callH h (As := [.int 8]) (fun r t hG => c_X5_count l ω _ 8 hG) 1 rfl gL_conkers_X5_count rfl rfl rfl (by decide +kernel) (by decide) (st0 := _) rfl (Nat.le_of_ble_eq_true rfl) dL_conkers_401 (fun r24 M25 => ?_)
              refine g_nm (fun M26 => ?_)
              refine g_iload_n h 3 dL_conkers_404 rfl rfl ?_
              refine g_icmp_ne h 441 dL_conkers_405 (by decide) (fun hc27 => ?_) (fun hc27 => ?_)
              · skip
                refine g_aload_n h 0 dL_conkers_408 rfl rfl ?_
                refine g_bipush h 9 dL_conkers_409 (by decide) ?_
                refine g_callH h (As := [.int 9]) (fun r t hG => c_X5_count l ω _ 9 hG) 1 rfl gL_conkers_X5_count rfl rfl rfl (by decide +kernel) (by decide) (st0 := _) rfl (Nat.le_of_ble_eq_true rfl) dL_conkers_411 (fun r28 M29 => ?_)
                refine g_nm (fun M30 => ?_)
                refine g_iload h 4 dL_conkers_414 rfl ?_
                refine g_icmp_ne h 441 dL_conkers_416 (by decide) (fun hc31 => ?_) (fun hc31 => ?_)
                · skip
                  refine g_aload_n h 0 dL_conkers_419 rfl rfl ?_
                  refine g_bipush h 7 dL_conkers_420 (by decide) ?_
                  refine g_callH h (As := [.int 7]) (fun r t hG => c_X5_count l ω _ 7 hG) 1 rfl gL_conkers_X5_count rfl rfl rfl (by decide +kernel) (by decide) (st0 := _) rfl (Nat.le_of_ble_eq_true rfl) dL_conkers_422 (fun r32 M33 => ?_)
                  refine g_nm (fun M34 => ?_)
                  refine g_iload h 5 dL_conkers_425 rfl ?_
                  refine g_icmp_ne h 441 dL_conkers_427 (by decide) (fun hc35 => ?_) (fun hc35 => ?_)
                  · skip
                    refine g_iload h 6 dL_conkers_430 rfl ?_
                    refine g_iload h 5 dL_conkers_432 rfl ?_
                    refine g_icmp_ne h 441 dL_conkers_434 (by decide) (fun hc36 => ?_) (fun hc36 => ?_)
                    · skip
                      refine g_iconst h 1 dL_conkers_437 (by decide) ?_
                      refine g_goto h (tgt := 442) dL_conkers_438 (by decide) ?_
                      refine g_sub (lv' := [(0, .ref (th ω 0 0)), (2, .int b2)]) [0, 2] rfl ?_
                      exact b_L_conkers_442 h hR (CtOk.mono hcx (by omega)) _ _ _
                    · skip
                      refine g_sub (lv' := [(0, .ref (th ω 0 0)), (2, .int b2)]) [0, 2] rfl ?_
                      exact b_L_conkers_441 h hR (CtOk.mono hcx (by omega)) _ _
                  · skip
                    refine g_sub (lv' := [(0, .ref (th ω 0 0)), (2, .int b2)]) [0, 2] rfl ?_
                    exact b_L_conkers_441 h hR (CtOk.mono hcx (by omega)) _ _
                · skip
                  refine g_sub (lv' := [(0, .ref (th ω 0 0)), (2, .int b2)]) [0, 2] rfl ?_
                  exact b_L_conkers_441 h hR (CtOk.mono hcx (by omega)) _ _
              · skip
                refine g_sub (lv' := [(0, .ref (th ω 0 0)), (2, .int b2)]) [0, 2] rfl ?_
                exact b_L_conkers_441 h hR (CtOk.mono hcx (by omega)) _ _
            · skip
              refine g_sub (lv' := [(0, .ref (th ω 0 0)), (2, .int b2)]) [0, 2] rfl ?_
              exact b_L_conkers_441 h hR (CtOk.mono hcx (by omega)) _ _
          · skip
            refine g_sub (lv' := [(0, .ref (th ω 0 0)), (2, .int b2)]) [0, 2] rfl ?_
            exact b_L_conkers_441 h hR (CtOk.mono hcx (by omega)) _ _
        · skip
          refine g_sub (lv' := [(0, .ref (th ω 0 0)), (2, .int b2)]) [0, 2] rfl ?_
          exact b_L_conkers_441 h hR (CtOk.mono hcx (by omega)) _ _
      · skip
        refine g_sub (lv' := [(0, .ref (th ω 0 0)), (2, .int b2)]) [0, 2] rfl ?_
        exact b_L_conkers_441 h hR (CtOk.mono hcx (by omega)) _ _
    · skip
      refine g_aload_n h 0 dL_conkers_30 rfl rfl ?_
      refine g_iload h 7 dL_conkers_31 rfl ?_
      refine g_bipush h 6 dL_conkers_33 (by decide) ?_
      refine g_callH h (As := [.int b7, .int 6]) (fun r t hG => c_X5_conker l ω _ b7 6 hG) 2 rfl gL_conkers_X5_conker rfl rfl rfl (by decide +kernel) (by decide) (st0 := _) rfl (Nat.le_of_ble_eq_true rfl) dL_conkers_35 (fun r37 M38 => ?_)
      refine g_nm (fun M39 => ?_)
      refine g_istore h (lv' := [(8, .int r37), (0, .ref (th ω 0 0)), (1, .ref (th ω 13 1)), (2, .int b2), (3, .int b3), (4, .int b4), (5, .int b5), (6, .int b6), (7, .int b7)]) dL_conkers_38 (by decide) [0, 1, 2, 3, 4, 5, 6, 7, 8] rfl ?_
      refine g_aload_n h 1 dL_conkers_40 rfl rfl ?_
      refine g_iload h 8 dL_conkers_41 rfl ?_
      refine g_bipush h 7 dL_conkers_43 (by decide) ?_
      refine g_callH h (As := [.int b7, .int 7]) (fun r t hG => c_X5_conker l ω _ b7 7 hG) 2 rfl gL_conkers_X5_conker rfl rfl rfl (by decide +kernel) (by decide) (st0 := _) rfl (Nat.le_of_ble_eq_true rfl) dL_conkers_45 (fun r40 M41 => ?_)
      refine g_nm (fun M42 => ?_)
      refine g_istore h (lv' := [(9, .int r40), (8, .int r37), (0, .ref (th ω 0 0)), (1, .ref (th ω 13 1)), (2, .int b2), (3, .int b3), (4, .int b4), (5, .int b5), (6, .int b6), (7, .int b7)]) dL_conkers_48 (by decide) [0, 1, 2, 3, 4, 5, 6, 7, 8, 9] rfl ?_
      refine g_aload_n h 2 dL_conkers_50 rfl rfl ?_
      refine g_iload h 9 dL_conkers_51 rfl ?_
      refine g_iconst h 5 dL_conkers_53 (by decide) ?_
      refine g_callH h (As := [.int b7, .int 5]) (fun r t hG => c_X5_conker l ω _ b7 5 hG) 2 rfl gL_conkers_X5_conker rfl rfl rfl (by decide +kernel) (by decide) (st0 := _) rfl (Nat.le_of_ble_eq_true rfl) dL_conkers_54 (fun r43 M44 => ?_)
      refine g_nm (fun M45 => ?_)
      refine g_istore h (lv' := [(10, .int r43), (9, .int r40), (8, .int r37), (0, .ref (th ω 0 0)), (1, .ref (th ω 13 1)), (2, .int b2), (3, .int b3), (4, .int b4), (5, .int b5), (6, .int b6), (7, .int b7)]) dL_conkers_57 (by decide) [0, 1, 2, 3, 4, 5, 6, 7, 8, 9, 10] rfl ?_
      refine g_aload_n h 4 dL_conkers_59 rfl rfl ?_
      refine g_iload h 2 dL_conkers_60 rfl ?_
      refine g_dup2 h dL_conkers_62 rfl rfl ?_
      refine g_iald h (v := M45 13 1 r37.toNatClampNeg) rfl iH_13_1 dL_conkers_63 ?_
      refine g_ni (fun v46 => ?_)
      refine g_iconst h 1 dL_conkers_64 (by decide) ?_
      refine g_iadd h dL_conkers_65 ?_
      refine g_iast h (x' := wM M45 13 1 r37.toNatClampNeg (v46 + 1)) rfl iH_13_1 dL_conkers_66 ?_
      refine g_nm (fun M47 => ?_)
      refine g_iload_n h 5 dL_conkers_67 rfl rfl ?_
      refine g_aload_n h 3 dL_conkers_68 rfl rfl ?_
      refine g_iload h 10 dL_conkers_69 rfl ?_
      refine g_iconst h 4 dL_conkers_71 (by decide) ?_
      refine g_callH h (As := [.int b7, .int 4]) (fun r t hG => c_X5_conker l ω _ b7 4 hG) 2 rfl gL_conkers_X5_conker rfl rfl rfl (by decide +kernel) (by decide) (st0 := _) rfl (Nat.le_of_ble_eq_true rfl) dL_conkers_72 (fun r48 M49 => ?_)
      refine g_nm (fun M50 => ?_)
      refine g_iadd h dL_conkers_75 ?_
      refine g_istore_n h rfl (lv' := [(2, .int (b2 + r48)), (10, .int r43), (9, .int r40), (8, .int r37), (0, .ref (th ω 0 0)), (1, .ref (th ω 13 1)), (3, .int b3), (4, .int b4), (5, .int b5), (6, .int b6), (7, .int b7)]) dL_conkers_76 (by decide) [0, 1, 2, 3, 4, 5, 6, 7, 8, 9, 10] rfl ?_
      refine g_iload_n h 6 dL_conkers_77 rfl rfl ?_
      refine g_iload h 1 dL_conkers_78 rfl ?_
      refine g_bipush h (-5) dL_conkers_80 (by decide) ?_
      refine g_icmp_ne h 89 dL_conkers_82 (by decide) (fun hc51 => ?_) (fun hc51 => ?_)
      · skip
        refine g_iconst h 0 dL_conkers_85 (by decide) ?_
        refine g_goto h (tgt := 90) dL_conkers_86 (by decide) ?_
        refine g_sub (lv' := [(0, .ref (th ω 0 0)), (1, .ref (th ω 13 1)), (2, .int (b2 + r48)), (4, .int b4), (5, .int b5), (6, .int b6), (7, .int b7), (8, .int r37), (9, .int r40), (10, .int r43)]) [4, 5, 0, 7, 8, 9, 10, 3, 2, 1] rfl ?_
        exact b_L_conkers_90 h hR (CtOk.mono hcx (by omega)) _ ih _ _ _ _ _ _ _ _ _ _ _
      · skip
        refine g_iconst h 1 dL_conkers_89 (by decide) ?_
        refine g_sub (lv' := [(0, .ref (th ω 0 0)), (1, .ref (th ω 13 1)), (2, .int (b2 + r48)), (4, .int b4), (5, .int b5), (6, .int b6), (7, .int b7), (8, .int r37), (9, .int r40), (10, .int r43)]) [4, 5, 0, 7, 8, 9, 10, 3, 2, 1] rfl ?_
        exact b_L_conkers_90 h hR (CtOk.mono hcx (by omega)) _ ih _ _ _ _ _ _ _ _ _ _ _
set_option maxHeartbeats 4000000 in
set_option maxRecDepth 100000 in
theorem b_L_conkers_3 {Γ : Cx} {l : Launch} {ω : Wd} {ct : Nat}  (h : CxOk Γ l ⟨5, 1, 3, 111⟩ 13 ω LH cL_conkers yL_conkers.cls wsL_conkers) (hR : RetI Γ ω LH cL_conkers .boolean) (hcx : CtOk Γ (ct + 0)) : ∀ (M : Mm), Gq ct Γ ω LH eI 3 [(0, .ref (th ω 0 0))] [.ref (th ω 13 1)] M (m_L_conkers_3 M) := by
  intro M
  unfold m_L_conkers_3
  refine g_astore_n h rfl (lv' := [(1, .ref (th ω 13 1)), (0, .ref (th ω 0 0))]) dL_conkers_3 (by decide) [0, 1] rfl ?_
  refine g_iconst h 0 dL_conkers_4 (by decide) ?_
  refine g_istore_n h rfl (lv' := [(2, .int 0), (1, .ref (th ω 13 1)), (0, .ref (th ω 0 0))]) dL_conkers_5 (by decide) [0, 1, 2] rfl ?_
  refine g_iconst h 0 dL_conkers_6 (by decide) ?_
  refine g_istore_n h rfl (lv' := [(3, .int 0), (2, .int 0), (1, .ref (th ω 13 1)), (0, .ref (th ω 0 0))]) dL_conkers_7 (by decide) [0, 1, 2, 3] rfl ?_
  refine g_iconst h 0 dL_conkers_8 (by decide) ?_
  refine g_istore h (lv' := [(4, .int 0), (3, .int 0), (2, .int 0), (1, .ref (th ω 13 1)), (0, .ref (th ω 0 0))]) dL_conkers_9 (by decide) [0, 1, 2, 3, 4] rfl ?_
  refine g_iconst h 0 dL_conkers_11 (by decide) ?_
  refine g_istore h (lv' := [(5, .int 0), (4, .int 0), (3, .int 0), (2, .int 0), (1, .ref (th ω 13 1)), (0, .ref (th ω 0 0))]) dL_conkers_12 (by decide) [0, 1, 2, 3, 4, 5] rfl ?_
  refine g_iconst h 0 dL_conkers_14 (by decide) ?_
  refine g_istore h (lv' := [(6, .int 0), (5, .int 0), (4, .int 0), (3, .int 0), (2, .int 0), (1, .ref (th ω 13 1)), (0, .ref (th ω 0 0))]) dL_conkers_15 (by decide) [0, 1, 2, 3, 4, 5, 6] rfl ?_
  refine g_iconst h 0 dL_conkers_17 (by decide) ?_
  refine g_istore h (lv' := [(7, .int 0), (6, .int 0), (5, .int 0), (4, .int 0), (3, .int 0), (2, .int 0), (1, .ref (th ω 13 1)), (0, .ref (th ω 0 0))]) dL_conkers_18 (by decide) [0, 1, 2, 3, 4, 5, 6, 7] rfl ?_
  refine g_sub (lv' := [(0, .ref (th ω 0 0)), (1, .ref (th ω 13 1)), (2, .int 0), (3, .int 0), (4, .int 0), (5, .int 0), (6, .int 0), (7, .int 0)]) [7, 6, 5, 4, 3, 2, 1, 0] rfl ?_
  exact b_L_conkers_20 h hR (CtOk.mono hcx (by omega)) fu _ _ _ _ _ _ _
set_option maxHeartbeats 4000000 in
theorem c_L_conkers (l : Launch) (ω : Wd) (M : Mm) {r : Int32} {M' : Mm} (hm : m_L_conkers M = some (r, M')) : MI l yL_conkers wsL_conkers ⟨5, 1, 3, 111⟩ ω LC [.ref (th ω 0 0)] M r M' := by
  refine met_i (cc := cL_conkers) (maxL := 13) (ty := .boolean) (by decide +kernel) rfl (Nat.le_of_ble_eq_true rfl) LC_nd ?_
  intro Γ h hR ht
  have hcx : CtOk Γ (0 + 1) := ctRm h (by decide) (by decide)
  suffices K : Gq 0 Γ ω LC eI 0 [(0, .ref (th ω 0 0))] [] M (some (r, M')) from K (r, M') rfl ht (c0 Γ)
  refine g_iconst h 3 dL_conkers_0 (by decide) ?_
  intro q hq htq _
  cases hq
  refine g_newH h (by decide +kernel) dL_conkers_1 hcx (fun ω' h' hRR e0 => ?_)
  rw [← e0]
  exact b_L_conkers_3 h' (hRR _ hR) (ct := 0 + 1) hcx (uM M 13 (fun _ _ => 0)) (r, M') hm ht hcx
