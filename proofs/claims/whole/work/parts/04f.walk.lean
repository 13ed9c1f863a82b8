/-! WALKS (written by wip/whole/gen.py): X6_pairError, X6_boutError, X6_less, X6_goesOn, X6_smashes, X6_strikes, X6_fights, X6_bout, X6_clearText, X6_heirOf -/
theorem n_X6_pairError_6 : ∀ w ∈ wsX60, w ∈ wsX6_pairError := by decide +kernel
set_option maxHeartbeats 4000000 in
set_option maxRecDepth 100000 in
theorem b_X6_pairError_92 {Γ : Cx} {l : Launch} {ω : Wd} {M0 : Mm}  (h : CxOk Γ l ⟨2, 0, 0, 43⟩ 5 ω LM cX6_pairError yX6_pairError.cls wsX6_pairError) (hR : RetI Γ ω LM cX6_pairError .int) : ∀ (T : Tm), Gq Γ ω LM (uM M0 0) 92 [] [] T (m_X6_pairError_92 T) := by
  intro T
  unfold m_X6_pairError_92
  refine g_bipush h (-4) dX6_pairError_92 (by decide) ?_
  refine g_goto h (tgt := 98) dX6_pairError_94 (by decide) ?_
  exact g_iret hR rfl dX6_pairError_98
set_option maxHeartbeats 4000000 in
set_option maxRecDepth 100000 in
theorem b_X6_pairError_62 {Γ : Cx} {l : Launch} {ω : Wd} {M0 : Mm}  (h : CxOk Γ l ⟨2, 0, 0, 43⟩ 5 ω LM cX6_pairError yX6_pairError.cls wsX6_pairError) (hR : RetI Γ ω LM cX6_pairError .int) : ∀ (b1 : Int32) (b2 : Int32) (s0 : Int32) (T : Tm), Gq Γ ω LM (uM M0 0) 62 [(0, .ref (th ω 0 0)), (1, .int b1), (2, .int b2)] [.int s0] T (m_X6_pairError_62 b1 b2 s0 T) := by
  intro b1 b2 s0 T
  unfold m_X6_pairError_62
  refine g_istore h (lv' := [(4, .int s0), (0, .ref (th ω 0 0)), (1, .int b1), (2, .int b2)]) dX6_pairError_62 (by decide) [0, 1, 2, 3] rfl ?_
  refine g_aload_n h 1 dX6_pairError_64 rfl rfl ?_
  refine g_getR h (index := 7) (j := 0) iM_0_0 (C := RX6) (T := TX6) (N := 13) rfl n_X6_pairError_6 (by decide) rfl (by decide +kernel) dX6_pairError_65 ?_
  refine g_iconst h 0 dX6_pairError_68 (by decide) ?_
  refine g_iload_n h 2 dX6_pairError_69 rfl rfl ?_
  refine g_callP h (As := [.int 0, .int b1]) (fun r t hG => c_X6_at l ω M00 0 b1 hG) 2 rfl gX6_pairError_X6_at rfl rfl rfl (by decide +kernel) (by decide) (st0 := _) rfl (Nat.le_of_ble_eq_true rfl) dX6_pairError_70 (fun r1 => ?_)
  refine g_iald h (v := T 1 r1.toNatClampNeg) (uMr M0 0 _ _ _) iM_0_1 dX6_pairError_73 ?_
  refine g_ni (fun v2 => ?_)
  refine g_aload_n h 1 dX6_pairError_74 rfl rfl ?_
  refine g_getR h (index := 7) (j := 0) iM_0_0 (C := RX6) (T := TX6) (N := 13) rfl n_X6_pairError_6 (by decide) rfl (by decide +kernel) dX6_pairError_75 ?_
  refine g_iconst h 0 dX6_pairError_78 (by decide) ?_
  refine g_iload_n h 3 dX6_pairError_79 rfl rfl ?_
  refine g_callP h (As := [.int 0, .int b2]) (fun r t hG => c_X6_at l ω M00 0 b2 hG) 2 rfl gX6_pairError_X6_at rfl rfl rfl (by decide +kernel) (by decide) (st0 := _) rfl (Nat.le_of_ble_eq_true rfl) dX6_pairError_80 (fun r3 => ?_)
  refine g_iald h (v := T 1 r3.toNatClampNeg) (uMr M0 0 _ _ _) iM_0_1 dX6_pairError_83 ?_
  refine g_ni (fun v4 => ?_)
  refine g_icmp_eq h 92 dX6_pairError_84 (by decide) (fun hc5 => ?_) (fun hc5 => ?_)
  · skip
    refine g_sub (lv' := []) [] rfl ?_
    exact b_X6_pairError_92 h hR _
  · skip
    refine g_iload h 0 dX6_pairError_87 rfl ?_
    refine g_if_ne h 97 dX6_pairError_89 (by decide) (fun hc6 => ?_) (fun hc6 => ?_)
    · skip
      refine g_sub (lv' := []) [] rfl ?_
      exact b_X6_pairError_92 h hR _
    · skip
      refine g_iconst h 0 dX6_pairError_97 (by decide) ?_
      exact g_iret hR rfl dX6_pairError_98
set_option maxHeartbeats 4000000 in
set_option maxRecDepth 100000 in
theorem b_X6_pairError_61 {Γ : Cx} {l : Launch} {ω : Wd} {M0 : Mm}  (h : CxOk Γ l ⟨2, 0, 0, 43⟩ 5 ω LM cX6_pairError yX6_pairError.cls wsX6_pairError) (hR : RetI Γ ω LM cX6_pairError .int) : ∀ (b1 : Int32) (b2 : Int32) (T : Tm), Gq Γ ω LM (uM M0 0) 61 [(0, .ref (th ω 0 0)), (1, .int b1), (2, .int b2)] [] T (m_X6_pairError_61 b1 b2 T) := by
  intro b1 b2 T
  unfold m_X6_pairError_61
  refine g_iconst h 0 dX6_pairError_61 (by decide) ?_
  exact b_X6_pairError_62 h hR _ _ _ _
set_option maxHeartbeats 4000000 in
set_option maxRecDepth 100000 in
theorem c_X6_pairError (l : Launch) (ω : Wd)  (M0 : Mm) (T : Tm) (a1 : Int32) (a2 : Int32) (a3 : Int32) {r : Int32} {T' : Tm} (hm : m_X6_pairError a1 a2 a3 T = some (r, T')) : MI l yX6_pairError wsX6_pairError ⟨2, 0, 0, 43⟩ ω LM [.ref (th ω 0 0), .int a1, .int a2, .int a3] (uM M0 0 T) r (uM M0 0 T') := by
  refine met_i (cc := cX6_pairError) (maxL := 5) (ty := .int) (by decide +kernel) rfl (Nat.le_of_ble_eq_true rfl) LM_nd ?_
  intro Γ h hR ht
  suffices K : Gq Γ ω LM (uM M0 0) 0 [(0, .ref (th ω 0 0)), (1, .int a1), (2, .int a2), (3, .int a3)] [] T (m_X6_pairError a1 a2 a3 T) from K (r, T') hm ht
  unfold m_X6_pairError
  refine g_aload_n h 0 dX6_pairError_0 rfl rfl ?_
  refine g_iload_n h 1 dX6_pairError_1 rfl rfl ?_
  refine g_callI h (As := [.int a1]) (fun t => t) (fun r t hG => c_X6_isConker l ω M0 _ a1 hG) iM_0_0 (C := RX6) (T := TX6) (N := 13) rfl 1 rfl gX6_pairError_X6_isConker rfl rfl rfl (by decide +kernel) (by decide) (st0 := _) rfl (Nat.le_of_ble_eq_true rfl) dX6_pairError_2 (fun r1 T2 => ?_)
  refine g_if_eq h 16 dX6_pairError_5 (by decide) (fun hc3 => ?_) (fun hc3 => ?_)
  · skip
    refine g_iconst h (-1) dX6_pairError_16 (by decide) ?_
    exact g_iret hR rfl dX6_pairError_17
  · skip
    refine g_aload_n h 0 dX6_pairError_8 rfl rfl ?_
    refine g_iload_n h 2 dX6_pairError_9 rfl rfl ?_
    refine g_callI h (As := [.int a2]) (fun t => t) (fun r t hG => c_X6_isConker l ω M0 _ a2 hG) iM_0_0 (C := RX6) (T := TX6) (N := 13) rfl 1 rfl gX6_pairError_X6_isConker rfl rfl rfl (by decide +kernel) (by decide) (st0 := _) rfl (Nat.le_of_ble_eq_true rfl) dX6_pairError_10 (fun r4 T5 => ?_)
    refine g_if_ne h 18 dX6_pairError_13 (by decide) (fun hc6 => ?_) (fun hc6 => ?_)
    · skip
      refine g_iconst h (-1) dX6_pairError_16 (by decide) ?_
      exact g_iret hR rfl dX6_pairError_17
    · skip
      refine g_iload_n h 3 dX6_pairError_18 rfl rfl ?_
      refine g_if_ne h 25 dX6_pairError_19 (by decide) (fun hc7 => ?_) (fun hc7 => ?_)
      · skip
        refine g_bipush h (-2) dX6_pairError_22 (by decide) ?_
        exact g_iret hR rfl dX6_pairError_24
      · skip
        refine g_aload_n h 0 dX6_pairError_25 rfl rfl ?_
        refine g_getR h (index := 7) (j := 0) iM_0_0 (C := RX6) (T := TX6) (N := 13) rfl n_X6_pairError_6 (by decide) rfl (by decide +kernel) dX6_pairError_26 ?_
        refine g_iconst h 0 dX6_pairError_29 (by decide) ?_
        refine g_iload_n h 1 dX6_pairError_30 rfl rfl ?_
        refine g_callP h (As := [.int 0, .int a1]) (fun r t hG => c_X6_at l ω M00 0 a1 hG) 2 rfl gX6_pairError_X6_at rfl rfl rfl (by decide +kernel) (by decide) (st0 := _) rfl (Nat.le_of_ble_eq_true rfl) dX6_pairError_31 (fun r8 => ?_)
        refine g_bipush h 6 dX6_pairError_34 (by decide) ?_
        refine g_iadd h dX6_pairError_36 ?_
        refine g_iald h (v := T5 1 ((r8 + 6).toNatClampNeg)) (uMr M0 0 _ _ _) iM_0_1 dX6_pairError_37 ?_
        refine g_ni (fun v9 => ?_)
        refine g_if_ne h 61 dX6_pairError_38 (by decide) (fun hc10 => ?_) (fun hc10 => ?_)
        · skip
          refine g_aload_n h 0 dX6_pairError_41 rfl rfl ?_
          refine g_getR h (index := 7) (j := 0) iM_0_0 (C := RX6) (T := TX6) (N := 13) rfl n_X6_pairError_6 (by decide) rfl (by decide +kernel) dX6_pairError_42 ?_
          refine g_iconst h 0 dX6_pairError_45 (by decide) ?_
          refine g_iload_n h 2 dX6_pairError_46 rfl rfl ?_
          refine g_callP h (As := [.int 0, .int a2]) (fun r t hG => c_X6_at l ω M00 0 a2 hG) 2 rfl gX6_pairError_X6_at rfl rfl rfl (by decide +kernel) (by decide) (st0 := _) rfl (Nat.le_of_ble_eq_true rfl) dX6_pairError_47 (fun r11 => ?_)
          refine g_bipush h 6 dX6_pairError_50 (by decide) ?_
          refine g_iadd h dX6_pairError_52 ?_
          refine g_iald h (v := T5 1 ((r11 + 6).toNatClampNeg)) (uMr M0 0 _ _ _) iM_0_1 dX6_pairError_53 ?_
          refine g_ni (fun v12 => ?_)
          refine g_if_ne h 61 dX6_pairError_54 (by decide) (fun hc13 => ?_) (fun hc13 => ?_)
          · skip
            refine g_iconst h 1 dX6_pairError_57 (by decide) ?_
            refine g_goto h (tgt := 62) dX6_pairError_58 (by decide) ?_
            refine g_sub (lv' := [(0, .ref (th ω 0 0)), (1, .int a1), (2, .int a2)]) [0, 1, 2] rfl ?_
            exact b_X6_pairError_62 h hR _ _ _ _
          · skip
            refine g_sub (lv' := [(0, .ref (th ω 0 0)), (1, .int a1), (2, .int a2)]) [0, 1, 2] rfl ?_
            exact b_X6_pairError_61 h hR _ _ _
        · skip
          refine g_sub (lv' := [(0, .ref (th ω 0 0)), (1, .int a1), (2, .int a2)]) [0, 1, 2] rfl ?_
          exact b_X6_pairError_61 h hR _ _ _
set_option maxHeartbeats 4000000 in
set_option maxRecDepth 100000 in
theorem c_X6_boutError (l : Launch) (ω : Wd)  (M0 : Mm) (T : Tm) (a1 : Int32) (a2 : Int32) (a3 : Int32) {r : Int32} {T' : Tm} (hm : m_X6_boutError a1 a2 a3 T = some (r, T')) : MI l yX6_boutError wsX6_boutError ⟨3, 0, 0, 67⟩ ω LM [.ref (th ω 0 0), .int a1, .int a2, .int a3] (uM M0 0 T) r (uM M0 0 T') := by
  refine met_i (cc := cX6_boutError) (maxL := 4) (ty := .int) (by decide +kernel) rfl (Nat.le_of_ble_eq_true rfl) LM_nd ?_
  intro Γ h hR ht
  suffices K : Gq Γ ω LM (uM M0 0) 0 [(0, .ref (th ω 0 0)), (1, .int a1), (2, .int a2), (3, .int a3)] [] T (m_X6_boutError a1 a2 a3 T) from K (r, T') hm ht
  unfold m_X6_boutError
  refine g_aload_n h 0 dX6_boutError_0 rfl rfl ?_
  refine g_iload_n h 1 dX6_boutError_1 rfl rfl ?_
  refine g_iload_n h 2 dX6_boutError_2 rfl rfl ?_
  refine g_iload_n h 3 dX6_boutError_3 rfl rfl ?_
  refine g_iconst h 0 dX6_boutError_4 (by decide) ?_
  refine g_ldc h 65535 dX6_boutError_5 (by decide +kernel) ?_
  refine g_callP h (As := [.int a3, .int 0, .int 65535]) (fun r t hG => c_X6_in l ω M00 a3 0 65535 hG) 3 rfl gX6_boutError_X6_in rfl rfl rfl (by decide +kernel) (by decide) (st0 := _) rfl (Nat.le_of_ble_eq_true rfl) dX6_boutError_7 (fun r1 => ?_)
  refine g_callI h (As := [.int a1, .int a2, .int r1]) (fun t => t) (fun r t hG => c_X6_pairError l ω M0 _ a1 a2 r1 hG) iM_0_0 (C := RX6) (T := TX6) (N := 13) rfl 3 rfl gX6_boutError_X6_pairError rfl rfl rfl (by decide +kernel) (by decide) (st0 := _) rfl (Nat.le_of_ble_eq_true rfl) dX6_boutError_10 (fun r2 T3 => ?_)
  exact g_iret hR rfl dX6_boutError_13
set_option maxHeartbeats 4000000 in
set_option maxRecDepth 100000 in
theorem c_X6_less (l : Launch) (ω : Wd)  (M : Mm) (a0 : Int32) (a1 : Int32) {r : Int32} {M' : Mm} (hm : m_X6_less a0 a1 M = some (r, M')) : MI l yX6_less wsX6_less ⟨0, 0, 0, 0⟩ ω L00 [.int a0, .int a1] M r M' := by
  refine met_i (cc := cX6_less) (maxL := 2) (ty := .int) (by decide +kernel) rfl (Nat.le_of_ble_eq_true rfl) L00_nd ?_
  intro Γ h hR ht
  suffices K : Gq Γ ω L00 eI 0 [(0, .int a0), (1, .int a1)] [] M (m_X6_less a0 a1 M) from K (r, M') hm ht
  unfold m_X6_less
  refine g_iload_n h 0 dX6_less_0 rfl rfl ?_
  refine g_iload_n h 1 dX6_less_1 rfl rfl ?_
  refine g_icmp_ge h 9 dX6_less_2 (by decide) (fun hc1 => ?_) (fun hc1 => ?_)
  · skip
    refine g_iload_n h 1 dX6_less_9 rfl rfl ?_
    exact g_iret hR rfl dX6_less_10
  · skip
    refine g_iload_n h 0 dX6_less_5 rfl rfl ?_
    refine g_goto h (tgt := 10) dX6_less_6 (by decide) ?_
    exact g_iret hR rfl dX6_less_10
theorem n_X6_goesOn_6 : ∀ w ∈ wsX60, w ∈ wsX6_goesOn := by decide +kernel
set_option maxHeartbeats 4000000 in
set_option maxRecDepth 100000 in
theorem c_X6_goesOn (l : Launch) (ω : Wd)  (M0 : Mm) (T : Tm) {r : Int32} {T' : Tm} (hm : m_X6_goesOn T = some (r, T')) : MV l yX6_goesOn wsX6_goesOn ⟨0, 0, 0, 0⟩ ω LM [.ref (th ω 0 0)] (uM M0 0 T) (uM M0 0 T') := by
  refine met_v (cc := cX6_goesOn) (maxL := 1) (r := r) (by decide +kernel) rfl (Nat.le_of_ble_eq_true rfl) LM_nd ?_
  intro Γ h hR ht
  suffices K : Gq Γ ω LM (uM M0 0) 0 [(0, .ref (th ω 0 0))] [] T (m_X6_goesOn T) from K (r, T') hm ht
  unfold m_X6_goesOn
  refine g_aload_n h 0 dX6_goesOn_0 rfl rfl ?_
  refine g_sipush h 25173 dX6_goesOn_1 (by decide) ?_
  refine g_aload_n h 0 dX6_goesOn_4 rfl rfl ?_
  refine g_getI h (v := T 0 5) (uMr M0 0 _ _ _) (index := 44) (j := 5) iM_0_0 (C := RX6) (T := TX6) (N := 13) rfl n_X6_goesOn_6 (by decide) rfl (by decide +kernel) dX6_goesOn_5 ?_
  refine g_ni (fun v1 => ?_)
  refine g_imul h dX6_goesOn_8 ?_
  refine g_sipush h 13849 dX6_goesOn_9 (by decide) ?_
  refine g_iadd h dX6_goesOn_12 ?_
  refine g_ldc h 65536 dX6_goesOn_13 (by decide +kernel) ?_
  refine g_irem h dX6_goesOn_15 ?_
  refine g_putI h (x' := wT T 0 5 (((25173 * v1) + 13849) - ((25173 * v1) + 13849) / 65536 * 65536)) (wM_uM M0 0 _ _ _ _).symm (index := 44) (j := 5) iM_0_0 (C := RX6) (T := TX6) (N := 13) rfl n_X6_goesOn_6 tyX6_ok nmX6 (by decide) rfl (by decide +kernel) rfl (ty := .int) (by decide +kernel) rfl rfl dX6_goesOn_16 ?_
  refine g_nm (fun T2 => ?_)
  exact g_vret hR dX6_goesOn_19
theorem n_X6_smashes_6 : ∀ w ∈ wsX60, w ∈ wsX6_smashes := by decide +kernel
set_option maxHeartbeats 4000000 in
set_option maxRecDepth 100000 in
theorem c_X6_smashes (l : Launch) (ω : Wd)  (M0 : Mm) (T : Tm) (a1 : Int32) (a2 : Int32) {r : Int32} {T' : Tm} (hm : m_X6_smashes a1 a2 T = some (r, T')) : MV l yX6_smashes wsX6_smashes ⟨0, 0, 0, 0⟩ ω LM [.ref (th ω 0 0), .int a1, .int a2] (uM M0 0 T) (uM M0 0 T') := by
  refine met_v (cc := cX6_smashes) (maxL := 3) (r := r) (by decide +kernel) rfl (Nat.le_of_ble_eq_true rfl) LM_nd ?_
  intro Γ h hR ht
  suffices K : Gq Γ ω LM (uM M0 0) 0 [(0, .ref (th ω 0 0)), (1, .int a1), (2, .int a2)] [] T (m_X6_smashes a1 a2 T) from K (r, T') hm ht
  unfold m_X6_smashes
  refine g_aload_n h 0 dX6_smashes_0 rfl rfl ?_
  refine g_getR h (index := 7) (j := 0) iM_0_0 (C := RX6) (T := TX6) (N := 13) rfl n_X6_smashes_6 (by decide) rfl (by decide +kernel) dX6_smashes_1 ?_
  refine g_iload_n h 1 dX6_smashes_4 rfl rfl ?_
  refine g_bipush h 6 dX6_smashes_5 (by decide) ?_
  refine g_iadd h dX6_smashes_7 ?_
  refine g_iconst h 2 dX6_smashes_8 (by decide) ?_
  refine g_iast h (x' := wT T 1 ((a1 + 6).toNatClampNeg) 2) (wM_uM M0 0 _ _ _ _).symm iM_0_1 dX6_smashes_9 ?_
  refine g_nm (fun T1 => ?_)
  refine g_aload_n h 0 dX6_smashes_10 rfl rfl ?_
  refine g_getR h (index := 7) (j := 0) iM_0_0 (C := RX6) (T := TX6) (N := 13) rfl n_X6_smashes_6 (by decide) rfl (by decide +kernel) dX6_smashes_11 ?_
  refine g_iload_n h 1 dX6_smashes_14 rfl rfl ?_
  refine g_iconst h 4 dX6_smashes_15 (by decide) ?_
  refine g_iadd h dX6_smashes_16 ?_
  refine g_iconst h 0 dX6_smashes_17 (by decide) ?_
  refine g_iast h (x' := wT T1 1 ((a1 + 4).toNatClampNeg) 0) (wM_uM M0 0 _ _ _ _).symm iM_0_1 dX6_smashes_18 ?_
  refine g_nm (fun T2 => ?_)
  refine g_aload_n h 0 dX6_smashes_19 rfl rfl ?_
  refine g_getR h (index := 7) (j := 0) iM_0_0 (C := RX6) (T := TX6) (N := 13) rfl n_X6_smashes_6 (by decide) rfl (by decide +kernel) dX6_smashes_20 ?_
  refine g_iload_n h 1 dX6_smashes_23 rfl rfl ?_
  refine g_iconst h 5 dX6_smashes_24 (by decide) ?_
  refine g_iadd h dX6_smashes_25 ?_
  refine g_bipush h (-5) dX6_smashes_26 (by decide) ?_
  refine g_iast h (x' := wT T2 1 ((a1 + 5).toNatClampNeg) (-5)) (wM_uM M0 0 _ _ _ _).symm iM_0_1 dX6_smashes_28 ?_
  refine g_nm (fun T3 => ?_)
  refine g_aload_n h 0 dX6_smashes_29 rfl rfl ?_
  refine g_getR h (index := 7) (j := 0) iM_0_0 (C := RX6) (T := TX6) (N := 13) rfl n_X6_smashes_6 (by decide) rfl (by decide +kernel) dX6_smashes_30 ?_
  refine g_iload_n h 1 dX6_smashes_33 rfl rfl ?_
  refine g_bipush h 7 dX6_smashes_34 (by decide) ?_
  refine g_iadd h dX6_smashes_36 ?_
  refine g_iload_n h 2 dX6_smashes_37 rfl rfl ?_
  refine g_iast h (x' := wT T3 1 ((a1 + 7).toNatClampNeg) a2) (wM_uM M0 0 _ _ _ _).symm iM_0_1 dX6_smashes_38 ?_
  refine g_nm (fun T4 => ?_)
  exact g_vret hR dX6_smashes_39
theorem n_X6_strikes_6 : ∀ w ∈ wsX60, w ∈ wsX6_strikes := by decide +kernel
set_option maxHeartbeats 4000000 in
set_option maxRecDepth 100000 in
theorem b_X6_strikes_480 {Γ : Cx} {l : Launch} {ω : Wd} {M0 : Mm}  (h : CxOk Γ l ⟨1, 0, 0, 22⟩ 11 ω LM cX6_strikes yX6_strikes.cls wsX6_strikes) (hR : RetI Γ ω LM cX6_strikes .int) : ∀ (b7 : Int32) (b8 : Int32) (b9 : Int32) (b10 : Int32) (s1 : Int32) (s2 : Int32) (T : Tm), Gq Γ ω LM (uM M0 0) 480 [(7, .int b7), (8, .int b8), (9, .int b9), (10, .int b10)] [.int s2, .int s1, .ref (th ω 0 1)] T (m_X6_strikes_480 b7 b8 b9 b10 s1 s2 T) := by
  intro b7 b8 b9 b10 s1 s2 T
  unfold m_X6_strikes_480
  refine g_iast h (x' := wT T 1 s1.toNatClampNeg s2) (wM_uM M0 0 _ _ _ _).symm iM_0_1 dX6_strikes_480 ?_
  refine g_nm (fun T1 => ?_)
  refine g_iload h 0 dX6_strikes_481 rfl ?_
  refine g_callP h (As := [.int b7]) (fun r t hG => c_X6_flag l ω M00 b7 hG) 1 rfl gX6_strikes_X6_flag rfl rfl rfl (by decide +kernel) (by decide) (st0 := _) rfl (Nat.le_of_ble_eq_true rfl) dX6_strikes_483 (fun r2 => ?_)
  refine g_iconst h 2 dX6_strikes_486 (by decide) ?_
  refine g_iload h 1 dX6_strikes_487 rfl ?_
  refine g_callP h (As := [.int b8]) (fun r t hG => c_X6_flag l ω M00 b8 hG) 1 rfl gX6_strikes_X6_flag rfl rfl rfl (by decide +kernel) (by decide) (st0 := _) rfl (Nat.le_of_ble_eq_true rfl) dX6_strikes_489 (fun r3 => ?_)
  refine g_imul h dX6_strikes_492 ?_
  refine g_iadd h dX6_strikes_493 ?_
  refine g_iconst h 4 dX6_strikes_494 (by decide) ?_
  refine g_iload h 2 dX6_strikes_495 rfl ?_
  refine g_callP h (As := [.int b9]) (fun r t hG => c_X6_flag l ω M00 b9 hG) 1 rfl gX6_strikes_X6_flag rfl rfl rfl (by decide +kernel) (by decide) (st0 := _) rfl (Nat.le_of_ble_eq_true rfl) dX6_strikes_497 (fun r4 => ?_)
  refine g_imul h dX6_strikes_500 ?_
  refine g_iadd h dX6_strikes_501 ?_
  refine g_bipush h 8 dX6_strikes_502 (by decide) ?_
  refine g_iload h 3 dX6_strikes_504 rfl ?_
  refine g_callP h (As := [.int b10]) (fun r t hG => c_X6_flag l ω M00 b10 hG) 1 rfl gX6_strikes_X6_flag rfl rfl rfl (by decide +kernel) (by decide) (st0 := _) rfl (Nat.le_of_ble_eq_true rfl) dX6_strikes_506 (fun r5 => ?_)
  refine g_imul h dX6_strikes_509 ?_
  refine g_iadd h dX6_strikes_510 ?_
  exact g_iret hR rfl dX6_strikes_511
set_option maxHeartbeats 4000000 in
set_option maxRecDepth 100000 in
theorem b_X6_strikes_451 {Γ : Cx} {l : Launch} {ω : Wd} {M0 : Mm}  (h : CxOk Γ l ⟨1, 0, 0, 22⟩ 11 ω LM cX6_strikes yX6_strikes.cls wsX6_strikes) (hR : RetI Γ ω LM cX6_strikes .int) : ∀ (b6 : Int32) (b7 : Int32) (b8 : Int32) (b9 : Int32) (b10 : Int32) (s1 : Int32) (s2 : Int32) (T : Tm), Gq Γ ω LM (uM M0 0) 451 [(0, .ref (th ω 0 0)), (6, .int b6), (7, .int b7), (8, .int b8), (9, .int b9), (10, .int b10)] [.int s2, .int s1, .ref (th ω 0 1)] T (m_X6_strikes_451 b6 b7 b8 b9 b10 s1 s2 T) := by
  intro b6 b7 b8 b9 b10 s1 s2 T
  unfold m_X6_strikes_451
  refine g_iast h (x' := wT T 1 s1.toNatClampNeg s2) (wM_uM M0 0 _ _ _ _).symm iM_0_1 dX6_strikes_451 ?_
  refine g_nm (fun T1 => ?_)
  refine g_aload_n h 0 dX6_strikes_452 rfl rfl ?_
  refine g_getR h (index := 7) (j := 0) iM_0_0 (C := RX6) (T := TX6) (N := 13) rfl n_X6_strikes_6 (by decide) rfl (by decide +kernel) dX6_strikes_453 ?_
  refine g_iload h 1 dX6_strikes_456 rfl ?_
  refine g_bipush h 6 dX6_strikes_458 (by decide) ?_
  refine g_iadd h dX6_strikes_460 ?_
  refine g_iload h 5 dX6_strikes_461 rfl ?_
  refine g_if_eq h 470 dX6_strikes_463 (by decide) (fun hc2 => ?_) (fun hc2 => ?_)
  · skip
    refine g_aload_n h 0 dX6_strikes_470 rfl rfl ?_
    refine g_getR h (index := 7) (j := 0) iM_0_0 (C := RX6) (T := TX6) (N := 13) rfl n_X6_strikes_6 (by decide) rfl (by decide +kernel) dX6_strikes_471 ?_
    refine g_iload h 1 dX6_strikes_474 rfl ?_
    refine g_bipush h 6 dX6_strikes_476 (by decide) ?_
    refine g_iadd h dX6_strikes_478 ?_
    refine g_iald h (v := T1 1 ((b6 + 6).toNatClampNeg)) (uMr M0 0 _ _ _) iM_0_1 dX6_strikes_479 ?_
    refine g_ni (fun v3 => ?_)
    refine g_sub (lv' := [(7, .int b7), (8, .int b8), (9, .int b9), (10, .int b10)]) [2, 3, 4, 5] rfl ?_
    exact b_X6_strikes_480 h hR _ _ _ _ _ _ _
  · skip
    refine g_iconst h 1 dX6_strikes_466 (by decide) ?_
    refine g_goto h (tgt := 480) dX6_strikes_467 (by decide) ?_
    refine g_sub (lv' := [(7, .int b7), (8, .int b8), (9, .int b9), (10, .int b10)]) [2, 3, 4, 5] rfl ?_
    exact b_X6_strikes_480 h hR _ _ _ _ _ _ _
set_option maxHeartbeats 4000000 in
set_option maxRecDepth 100000 in
theorem b_X6_strikes_421 {Γ : Cx} {l : Launch} {ω : Wd} {M0 : Mm}  (h : CxOk Γ l ⟨1, 0, 0, 22⟩ 11 ω LM cX6_strikes yX6_strikes.cls wsX6_strikes) (hR : RetI Γ ω LM cX6_strikes .int) : ∀ (b5 : Int32) (b6 : Int32) (b7 : Int32) (b8 : Int32) (b9 : Int32) (s0 : Int32) (T : Tm), Gq Γ ω LM (uM M0 0) 421 [(0, .ref (th ω 0 0)), (5, .int b5), (6, .int b6), (7, .int b7), (8, .int b8), (9, .int b9)] [.int s0] T (m_X6_strikes_421 b5 b6 b7 b8 b9 s0 T) := by
  intro b5 b6 b7 b8 b9 s0 T
  unfold m_X6_strikes_421
  refine g_istore h (lv' := [(10, .int s0), (0, .ref (th ω 0 0)), (5, .int b5), (6, .int b6), (7, .int b7), (8, .int b8), (9, .int b9)]) dX6_strikes_421 (by decide) [0, 1, 2, 3, 4, 5, 6] rfl ?_
  refine g_aload_n h 1 dX6_strikes_423 rfl rfl ?_
  refine g_getR h (index := 7) (j := 0) iM_0_0 (C := RX6) (T := TX6) (N := 13) rfl n_X6_strikes_6 (by decide) rfl (by decide +kernel) dX6_strikes_424 ?_
  refine g_iload h 2 dX6_strikes_427 rfl ?_
  refine g_bipush h 6 dX6_strikes_429 (by decide) ?_
  refine g_iadd h dX6_strikes_431 ?_
  refine g_iload h 6 dX6_strikes_432 rfl ?_
  refine g_if_eq h 441 dX6_strikes_434 (by decide) (fun hc1 => ?_) (fun hc1 => ?_)
  · skip
    refine g_aload_n h 1 dX6_strikes_441 rfl rfl ?_
    refine g_getR h (index := 7) (j := 0) iM_0_0 (C := RX6) (T := TX6) (N := 13) rfl n_X6_strikes_6 (by decide) rfl (by decide +kernel) dX6_strikes_442 ?_
    refine g_iload h 2 dX6_strikes_445 rfl ?_
    refine g_bipush h 6 dX6_strikes_447 (by decide) ?_
    refine g_iadd h dX6_strikes_449 ?_
    refine g_iald h (v := T 1 ((b5 + 6).toNatClampNeg)) (uMr M0 0 _ _ _) iM_0_1 dX6_strikes_450 ?_
    refine g_ni (fun v2 => ?_)
    refine g_sub (lv' := [(0, .ref (th ω 0 0)), (6, .int b6), (7, .int b7), (8, .int b8), (9, .int b9), (10, .int s0)]) [1, 3, 4, 5, 6, 0] rfl ?_
    exact b_X6_strikes_451 h hR _ _ _ _ _ _ _ _
  · skip
    refine g_iconst h 1 dX6_strikes_437 (by decide) ?_
    refine g_goto h (tgt := 451) dX6_strikes_438 (by decide) ?_
    refine g_sub (lv' := [(0, .ref (th ω 0 0)), (6, .int b6), (7, .int b7), (8, .int b8), (9, .int b9), (10, .int s0)]) [1, 3, 4, 5, 6, 0] rfl ?_
    exact b_X6_strikes_451 h hR _ _ _ _ _ _ _ _
set_option maxHeartbeats 4000000 in
set_option maxRecDepth 100000 in
theorem b_X6_strikes_420 {Γ : Cx} {l : Launch} {ω : Wd} {M0 : Mm}  (h : CxOk Γ l ⟨1, 0, 0, 22⟩ 11 ω LM cX6_strikes yX6_strikes.cls wsX6_strikes) (hR : RetI Γ ω LM cX6_strikes .int) : ∀ (b5 : Int32) (b6 : Int32) (b7 : Int32) (b8 : Int32) (b9 : Int32) (T : Tm), Gq Γ ω LM (uM M0 0) 420 [(0, .ref (th ω 0 0)), (5, .int b5), (6, .int b6), (7, .int b7), (8, .int b8), (9, .int b9)] [] T (m_X6_strikes_420 b5 b6 b7 b8 b9 T) := by
  intro b5 b6 b7 b8 b9 T
  unfold m_X6_strikes_420
  refine g_iconst h 0 dX6_strikes_420 (by decide) ?_
  exact b_X6_strikes_421 h hR _ _ _ _ _ _ _
set_option maxHeartbeats 4000000 in
set_option maxRecDepth 100000 in
theorem b_X6_strikes_395 {Γ : Cx} {l : Launch} {ω : Wd} {M0 : Mm}  (h : CxOk Γ l ⟨1, 0, 0, 22⟩ 11 ω LM cX6_strikes yX6_strikes.cls wsX6_strikes) (hR : RetI Γ ω LM cX6_strikes .int) : ∀ (b5 : Int32) (b6 : Int32) (b7 : Int32) (b8 : Int32) (s0 : Int32) (T : Tm), Gq Γ ω LM (uM M0 0) 395 [(0, .ref (th ω 0 0)), (5, .int b5), (6, .int b6), (7, .int b7), (8, .int b8)] [.int s0] T (m_X6_strikes_395 b5 b6 b7 b8 s0 T) := by
  intro b5 b6 b7 b8 s0 T
  unfold m_X6_strikes_395
  refine g_istore h (lv' := [(9, .int s0), (0, .ref (th ω 0 0)), (5, .int b5), (6, .int b6), (7, .int b7), (8, .int b8)]) dX6_strikes_395 (by decide) [0, 1, 2, 3, 4, 5] rfl ?_
  refine g_iload h 5 dX6_strikes_397 rfl ?_
  refine g_if_ne h 420 dX6_strikes_399 (by decide) (fun hc1 => ?_) (fun hc1 => ?_)
  · skip
    refine g_aload_n h 1 dX6_strikes_402 rfl rfl ?_
    refine g_getR h (index := 7) (j := 0) iM_0_0 (C := RX6) (T := TX6) (N := 13) rfl n_X6_strikes_6 (by decide) rfl (by decide +kernel) dX6_strikes_403 ?_
    refine g_iload h 3 dX6_strikes_406 rfl ?_
    refine g_iconst h 3 dX6_strikes_408 (by decide) ?_
    refine g_iadd h dX6_strikes_409 ?_
    refine g_iald h (v := T 1 ((b6 + 3).toNatClampNeg)) (uMr M0 0 _ _ _) iM_0_1 dX6_strikes_410 ?_
    refine g_ni (fun v2 => ?_)
    refine g_bipush h 20 dX6_strikes_411 (by decide) ?_
    refine g_icmp_ne h 420 dX6_strikes_413 (by decide) (fun hc3 => ?_) (fun hc3 => ?_)
    · skip
      refine g_iconst h 1 dX6_strikes_416 (by decide) ?_
      refine g_goto h (tgt := 421) dX6_strikes_417 (by decide) ?_
      refine g_sub (lv' := [(0, .ref (th ω 0 0)), (5, .int b5), (6, .int b6), (7, .int b7), (8, .int b8), (9, .int s0)]) [1, 2, 3, 4, 5, 0] rfl ?_
      exact b_X6_strikes_421 h hR _ _ _ _ _ _ _
    · skip
      refine g_sub (lv' := [(0, .ref (th ω 0 0)), (5, .int b5), (6, .int b6), (7, .int b7), (8, .int b8), (9, .int s0)]) [1, 2, 3, 4, 5, 0] rfl ?_
      exact b_X6_strikes_420 h hR _ _ _ _ _ _
  · skip
    refine g_sub (lv' := [(0, .ref (th ω 0 0)), (5, .int b5), (6, .int b6), (7, .int b7), (8, .int b8), (9, .int s0)]) [1, 2, 3, 4, 5, 0] rfl ?_
    exact b_X6_strikes_420 h hR _ _ _ _ _ _
set_option maxHeartbeats 4000000 in
set_option maxRecDepth 100000 in
theorem b_X6_strikes_394 {Γ : Cx} {l : Launch} {ω : Wd} {M0 : Mm}  (h : CxOk Γ l ⟨1, 0, 0, 22⟩ 11 ω LM cX6_strikes yX6_strikes.cls wsX6_strikes) (hR : RetI Γ ω LM cX6_strikes .int) : ∀ (b5 : Int32) (b6 : Int32) (b7 : Int32) (b8 : Int32) (T : Tm), Gq Γ ω LM (uM M0 0) 394 [(0, .ref (th ω 0 0)), (5, .int b5), (6, .int b6), (7, .int b7), (8, .int b8)] [] T (m_X6_strikes_394 b5 b6 b7 b8 T) := by
  intro b5 b6 b7 b8 T
  unfold m_X6_strikes_394
  refine g_iconst h 0 dX6_strikes_394 (by decide) ?_
  exact b_X6_strikes_395 h hR _ _ _ _ _ _
set_option maxHeartbeats 4000000 in
set_option maxRecDepth 100000 in
theorem b_X6_strikes_371 {Γ : Cx} {l : Launch} {ω : Wd} {M0 : Mm}  (h : CxOk Γ l ⟨1, 0, 0, 22⟩ 11 ω LM cX6_strikes yX6_strikes.cls wsX6_strikes) (hR : RetI Γ ω LM cX6_strikes .int) : ∀ (b5 : Int32) (b6 : Int32) (b7 : Int32) (b8 : Int32) (T : Tm), Gq Γ ω LM (uM M0 0) 371 [(0, .ref (th ω 0 0)), (5, .int b5), (6, .int b6), (7, .int b7), (8, .int b8)] [] T (m_X6_strikes_371 b5 b6 b7 b8 T) := by
  intro b5 b6 b7 b8 T
  unfold m_X6_strikes_371
  refine g_iload h 3 dX6_strikes_371 rfl ?_
  refine g_if_ne h 394 dX6_strikes_373 (by decide) (fun hc1 => ?_) (fun hc1 => ?_)
  · skip
    refine g_aload_n h 0 dX6_strikes_376 rfl rfl ?_
    refine g_getR h (index := 7) (j := 0) iM_0_0 (C := RX6) (T := TX6) (N := 13) rfl n_X6_strikes_6 (by decide) rfl (by decide +kernel) dX6_strikes_377 ?_
    refine g_iload h 1 dX6_strikes_380 rfl ?_
    refine g_iconst h 3 dX6_strikes_382 (by decide) ?_
    refine g_iadd h dX6_strikes_383 ?_
    refine g_iald h (v := T 1 ((b5 + 3).toNatClampNeg)) (uMr M0 0 _ _ _) iM_0_1 dX6_strikes_384 ?_
    refine g_ni (fun v2 => ?_)
    refine g_bipush h 20 dX6_strikes_385 (by decide) ?_
    refine g_icmp_ne h 394 dX6_strikes_387 (by decide) (fun hc3 => ?_) (fun hc3 => ?_)
    · skip
      refine g_iconst h 1 dX6_strikes_390 (by decide) ?_
      refine g_goto h (tgt := 395) dX6_strikes_391 (by decide) ?_
      exact b_X6_strikes_395 h hR _ _ _ _ _ _
    · skip
      exact b_X6_strikes_394 h hR _ _ _ _ _
  · skip
    exact b_X6_strikes_394 h hR _ _ _ _ _
set_option maxHeartbeats 4000000 in
set_option maxRecDepth 100000 in
theorem b_X6_strikes_368 {Γ : Cx} {l : Launch} {ω : Wd} {M0 : Mm}  (h : CxOk Γ l ⟨1, 0, 0, 22⟩ 11 ω LM cX6_strikes yX6_strikes.cls wsX6_strikes) (hR : RetI Γ ω LM cX6_strikes .int) : ∀ (b5 : Int32) (b6 : Int32) (b7 : Int32) (b8 : Int32) (s1 : Int32) (s2 : Int32) (T : Tm), Gq Γ ω LM (uM M0 0) 368 [(0, .ref (th ω 0 0)), (5, .int b5), (6, .int b6), (7, .int b7), (8, .int b8)] [.int s2, .int s1, .ref (th ω 0 0)] T (m_X6_strikes_368 b5 b6 b7 b8 s1 s2 T) := by
  intro b5 b6 b7 b8 s1 s2 T
  unfold m_X6_strikes_368
  refine g_callV h (As := [.int s1, .int s2]) (fun t => t) (fun r t hG => c_X6_smashes l ω M0 _ s1 s2 hG) iM_0_0 (C := RX6) (T := TX6) (N := 13) rfl 2 rfl gX6_strikes_X6_smashes rfl rfl rfl (by decide +kernel) (by decide) (st0 := _) rfl (Nat.le_of_ble_eq_true rfl) dX6_strikes_368 (fun r1 T2 => ?_)
  exact b_X6_strikes_371 h hR _ _ _ _ _
set_option maxHeartbeats 4000000 in
set_option maxRecDepth 100000 in
theorem b_X6_strikes_318 {Γ : Cx} {l : Launch} {ω : Wd} {M0 : Mm}  (h : CxOk Γ l ⟨1, 0, 0, 22⟩ 11 ω LM cX6_strikes yX6_strikes.cls wsX6_strikes) (hR : RetI Γ ω LM cX6_strikes .int) : ∀ (b1 : Int32) (b2 : Int32) (b3 : Int32) (b5 : Int32) (b6 : Int32) (b7 : Int32) (b8 : Int32) (b9 : Int32) (s0 : Int32) (T : Tm), Gq Γ ω LM (uM M0 0) 318 [(0, .ref (th ω 0 0)), (1, .int b1), (2, .int b2), (3, .int b3), (5, .int b5), (6, .int b6), (7, .int b7), (8, .int b8), (9, .int b9)] [.int s0] T (m_X6_strikes_318 b1 b2 b3 b5 b6 b7 b8 b9 s0 T) := by
  intro b1 b2 b3 b5 b6 b7 b8 b9 s0 T
  unfold m_X6_strikes_318
  refine g_istore h (lv' := [(10, .int s0), (0, .ref (th ω 0 0)), (1, .int b1), (2, .int b2), (3, .int b3), (5, .int b5), (6, .int b6), (7, .int b7), (8, .int b8), (9, .int b9)]) dX6_strikes_318 (by decide) [0, 1, 2, 3, 4, 5, 6, 7, 8, 9] rfl ?_
  refine g_aload_n h 1 dX6_strikes_320 rfl rfl ?_
  refine g_getR h (index := 7) (j := 0) iM_0_0 (C := RX6) (T := TX6) (N := 13) rfl n_X6_strikes_6 (by decide) rfl (by decide +kernel) dX6_strikes_321 ?_
  refine g_iload h 9 dX6_strikes_324 rfl ?_
  refine g_iconst h 4 dX6_strikes_326 (by decide) ?_
  refine g_iadd h dX6_strikes_327 ?_
  refine g_dup2 h dX6_strikes_328 rfl rfl ?_
  refine g_iald h (v := T 1 ((b9 + 4).toNatClampNeg)) (uMr M0 0 _ _ _) iM_0_1 dX6_strikes_329 ?_
  refine g_ni (fun v1 => ?_)
  refine g_iconst h 1 dX6_strikes_330 (by decide) ?_
  refine g_aload_n h 1 dX6_strikes_331 rfl rfl ?_
  refine g_getR h (index := 7) (j := 0) iM_0_0 (C := RX6) (T := TX6) (N := 13) rfl n_X6_strikes_6 (by decide) rfl (by decide +kernel) dX6_strikes_332 ?_
  refine g_iload h 0 dX6_strikes_335 rfl ?_
  refine g_iconst h 4 dX6_strikes_337 (by decide) ?_
  refine g_iadd h dX6_strikes_338 ?_
  refine g_iald h (v := T 1 ((s0 + 4).toNatClampNeg)) (uMr M0 0 _ _ _) iM_0_1 dX6_strikes_339 ?_
  refine g_ni (fun v2 => ?_)
  refine g_iadd h dX6_strikes_340 ?_
  refine g_iadd h dX6_strikes_341 ?_
  refine g_iast h (x' := wT T 1 ((b9 + 4).toNatClampNeg) (v1 + (1 + v2))) (wM_uM M0 0 _ _ _ _).symm iM_0_1 dX6_strikes_342 ?_
  refine g_nm (fun T3 => ?_)
  refine g_aload_n h 1 dX6_strikes_343 rfl rfl ?_
  refine g_getR h (index := 7) (j := 0) iM_0_0 (C := RX6) (T := TX6) (N := 13) rfl n_X6_strikes_6 (by decide) rfl (by decide +kernel) dX6_strikes_344 ?_
  refine g_iload_n h 2 dX6_strikes_347 rfl rfl ?_
  refine g_iconst h 3 dX6_strikes_348 (by decide) ?_
  refine g_iadd h dX6_strikes_349 ?_
  refine g_dup2 h dX6_strikes_350 rfl rfl ?_
  refine g_iald h (v := T3 1 ((b1 + 3).toNatClampNeg)) (uMr M0 0 _ _ _) iM_0_1 dX6_strikes_351 ?_
  refine g_ni (fun v4 => ?_)
  refine g_iconst h 1 dX6_strikes_352 (by decide) ?_
  refine g_iadd h dX6_strikes_353 ?_
  refine g_iast h (x' := wT T3 1 ((b1 + 3).toNatClampNeg) (v4 + 1)) (wM_uM M0 0 _ _ _ _).symm iM_0_1 dX6_strikes_354 ?_
  refine g_nm (fun T5 => ?_)
  refine g_aload_n h 1 dX6_strikes_355 rfl rfl ?_
  refine g_iload h 0 dX6_strikes_356 rfl ?_
  refine g_iload h 7 dX6_strikes_358 rfl ?_
  refine g_if_eq h 367 dX6_strikes_360 (by decide) (fun hc6 => ?_) (fun hc6 => ?_)
  · skip
    refine g_iload_n h 3 dX6_strikes_367 rfl rfl ?_
    refine g_sub (lv' := [(0, .ref (th ω 0 0)), (5, .int b5), (6, .int b6), (7, .int b7), (8, .int b8)]) [1, 5, 6, 7, 8] rfl ?_
    exact b_X6_strikes_368 h hR _ _ _ _ _ _ _
  · skip
    refine g_iload_n h 4 dX6_strikes_363 rfl rfl ?_
    refine g_goto h (tgt := 368) dX6_strikes_364 (by decide) ?_
    refine g_sub (lv' := [(0, .ref (th ω 0 0)), (5, .int b5), (6, .int b6), (7, .int b7), (8, .int b8)]) [1, 5, 6, 7, 8] rfl ?_
    exact b_X6_strikes_368 h hR _ _ _ _ _ _ _
set_option maxHeartbeats 4000000 in
set_option maxRecDepth 100000 in
theorem b_X6_strikes_304 {Γ : Cx} {l : Launch} {ω : Wd} {M0 : Mm}  (h : CxOk Γ l ⟨1, 0, 0, 22⟩ 11 ω LM cX6_strikes yX6_strikes.cls wsX6_strikes) (hR : RetI Γ ω LM cX6_strikes .int) : ∀ (b1 : Int32) (b2 : Int32) (b3 : Int32) (b5 : Int32) (b6 : Int32) (b7 : Int32) (b8 : Int32) (s0 : Int32) (T : Tm), Gq Γ ω LM (uM M0 0) 304 [(0, .ref (th ω 0 0)), (1, .int b1), (2, .int b2), (3, .int b3), (5, .int b5), (6, .int b6), (7, .int b7), (8, .int b8)] [.int s0] T (m_X6_strikes_304 b1 b2 b3 b5 b6 b7 b8 s0 T) := by
  intro b1 b2 b3 b5 b6 b7 b8 s0 T
  unfold m_X6_strikes_304
  refine g_istore h (lv' := [(9, .int s0), (0, .ref (th ω 0 0)), (1, .int b1), (2, .int b2), (3, .int b3), (5, .int b5), (6, .int b6), (7, .int b7), (8, .int b8)]) dX6_strikes_304 (by decide) [0, 1, 2, 3, 4, 5, 6, 7, 8] rfl ?_
  refine g_iload h 7 dX6_strikes_306 rfl ?_
  refine g_if_eq h 316 dX6_strikes_308 (by decide) (fun hc1 => ?_) (fun hc1 => ?_)
  · skip
    refine g_iload h 6 dX6_strikes_316 rfl ?_
    refine g_sub (lv' := [(0, .ref (th ω 0 0)), (1, .int b1), (2, .int b2), (3, .int b3), (5, .int b5), (6, .int b6), (7, .int b7), (8, .int b8), (9, .int s0)]) [1, 2, 3, 4, 5, 6, 7, 8, 0] rfl ?_
    exact b_X6_strikes_318 h hR _ _ _ _ _ _ _ _ _ _
  · skip
    refine g_iload h 5 dX6_strikes_311 rfl ?_
    refine g_goto h (tgt := 318) dX6_strikes_313 (by decide) ?_
    refine g_sub (lv' := [(0, .ref (th ω 0 0)), (1, .int b1), (2, .int b2), (3, .int b3), (5, .int b5), (6, .int b6), (7, .int b7), (8, .int b8), (9, .int s0)]) [1, 2, 3, 4, 5, 6, 7, 8, 0] rfl ?_
    exact b_X6_strikes_318 h hR _ _ _ _ _ _ _ _ _ _
set_option maxHeartbeats 4000000 in
set_option maxRecDepth 100000 in
theorem b_X6_strikes_292 {Γ : Cx} {l : Launch} {ω : Wd} {M0 : Mm}  (h : CxOk Γ l ⟨1, 0, 0, 22⟩ 11 ω LM cX6_strikes yX6_strikes.cls wsX6_strikes) (hR : RetI Γ ω LM cX6_strikes .int) : ∀ (b1 : Int32) (b2 : Int32) (b3 : Int32) (b5 : Int32) (b6 : Int32) (b7 : Int32) (b8 : Int32) (T : Tm), Gq Γ ω LM (uM M0 0) 292 [(0, .ref (th ω 0 0)), (1, .int b1), (2, .int b2), (3, .int b3), (5, .int b5), (6, .int b6), (7, .int b7), (8, .int b8)] [] T (m_X6_strikes_292 b1 b2 b3 b5 b6 b7 b8 T) := by
  intro b1 b2 b3 b5 b6 b7 b8 T
  unfold m_X6_strikes_292
  refine g_iload h 6 dX6_strikes_292 rfl ?_
  refine g_if_eq h 302 dX6_strikes_294 (by decide) (fun hc1 => ?_) (fun hc1 => ?_)
  · skip
    refine g_iload h 4 dX6_strikes_302 rfl ?_
    exact b_X6_strikes_304 h hR _ _ _ _ _ _ _ _ _
  · skip
    refine g_iload h 5 dX6_strikes_297 rfl ?_
    refine g_goto h (tgt := 304) dX6_strikes_299 (by decide) ?_
    exact b_X6_strikes_304 h hR _ _ _ _ _ _ _ _ _
set_option maxHeartbeats 4000000 in
set_option maxRecDepth 100000 in
theorem b_X6_strikes_282 {Γ : Cx} {l : Launch} {ω : Wd} {M0 : Mm}  (h : CxOk Γ l ⟨1, 0, 0, 22⟩ 11 ω LM cX6_strikes yX6_strikes.cls wsX6_strikes) (hR : RetI Γ ω LM cX6_strikes .int) : ∀ (b1 : Int32) (b2 : Int32) (b3 : Int32) (b5 : Int32) (b6 : Int32) (b7 : Int32) (b8 : Int32) (T : Tm), Gq Γ ω LM (uM M0 0) 282 [(0, .ref (th ω 0 0)), (1, .int b1), (2, .int b2), (3, .int b3), (5, .int b5), (6, .int b6), (7, .int b7), (8, .int b8)] [] T (m_X6_strikes_282 b1 b2 b3 b5 b6 b7 b8 T) := by
  intro b1 b2 b3 b5 b6 b7 b8 T
  unfold m_X6_strikes_282
  refine g_iload h 6 dX6_strikes_282 rfl ?_
  refine g_if_ne h 292 dX6_strikes_284 (by decide) (fun hc1 => ?_) (fun hc1 => ?_)
  · skip
    refine g_iload h 7 dX6_strikes_287 rfl ?_
    refine g_if_eq h 371 dX6_strikes_289 (by decide) (fun hc2 => ?_) (fun hc2 => ?_)
    · skip
      refine g_sub (lv' := [(0, .ref (th ω 0 0)), (5, .int b5), (6, .int b6), (7, .int b7), (8, .int b8)]) [0, 4, 5, 6, 7] rfl ?_
      exact b_X6_strikes_371 h hR _ _ _ _ _
    · skip
      exact b_X6_strikes_292 h hR _ _ _ _ _ _ _ _
  · skip
    exact b_X6_strikes_292 h hR _ _ _ _ _ _ _ _
set_option maxHeartbeats 4000000 in
set_option maxRecDepth 100000 in
theorem b_X6_strikes_221 {Γ : Cx} {l : Launch} {ω : Wd} {M0 : Mm}  (h : CxOk Γ l ⟨1, 0, 0, 22⟩ 11 ω LM cX6_strikes yX6_strikes.cls wsX6_strikes) (hR : RetI Γ ω LM cX6_strikes .int) : ∀ (b1 : Int32) (b2 : Int32) (b3 : Int32) (b5 : Int32) (b6 : Int32) (b7 : Int32) (s0 : Int32) (T : Tm), Gq Γ ω LM (uM M0 0) 221 [(0, .ref (th ω 0 0)), (1, .int b1), (2, .int b2), (3, .int b3), (5, .int b5), (6, .int b6), (7, .int b7)] [.int s0] T (m_X6_strikes_221 b1 b2 b3 b5 b6 b7 s0 T) := by
  intro b1 b2 b3 b5 b6 b7 s0 T
  unfold m_X6_strikes_221
  refine g_istore h (lv' := [(8, .int s0), (0, .ref (th ω 0 0)), (1, .int b1), (2, .int b2), (3, .int b3), (5, .int b5), (6, .int b6), (7, .int b7)]) dX6_strikes_221 (by decide) [0, 1, 2, 3, 4, 5, 6, 7] rfl ?_
  refine g_iload h 7 dX6_strikes_223 rfl ?_
  refine g_if_eq h 282 dX6_strikes_225 (by decide) (fun hc1 => ?_) (fun hc1 => ?_)
  · skip
    refine g_sub (lv' := [(0, .ref (th ω 0 0)), (1, .int b1), (2, .int b2), (3, .int b3), (5, .int b5), (6, .int b6), (7, .int b7), (8, .int s0)]) [1, 2, 3, 4, 5, 6, 7, 0] rfl ?_
    exact b_X6_strikes_282 h hR _ _ _ _ _ _ _ _
  · skip
    refine g_iload h 0 dX6_strikes_228 rfl ?_
    refine g_if_eq h 282 dX6_strikes_230 (by decide) (fun hc2 => ?_) (fun hc2 => ?_)
    · skip
      refine g_sub (lv' := [(0, .ref (th ω 0 0)), (1, .int b1), (2, .int b2), (3, .int b3), (5, .int b5), (6, .int b6), (7, .int b7), (8, .int s0)]) [1, 2, 3, 4, 5, 6, 7, 0] rfl ?_
      exact b_X6_strikes_282 h hR _ _ _ _ _ _ _ _
    · skip
      refine g_aload_n h 1 dX6_strikes_233 rfl rfl ?_
      refine g_getR h (index := 7) (j := 0) iM_0_0 (C := RX6) (T := TX6) (N := 13) rfl n_X6_strikes_6 (by decide) rfl (by decide +kernel) dX6_strikes_234 ?_
      refine g_iload_n h 2 dX6_strikes_237 rfl rfl ?_
      refine g_iconst h 1 dX6_strikes_238 (by decide) ?_
      refine g_iadd h dX6_strikes_239 ?_
      refine g_dup2 h dX6_strikes_240 rfl rfl ?_
      refine g_iald h (v := T 1 ((b1 + 1).toNatClampNeg)) (uMr M0 0 _ _ _) iM_0_1 dX6_strikes_241 ?_
      refine g_ni (fun v3 => ?_)
      refine g_aload_n h 1 dX6_strikes_242 rfl rfl ?_
      refine g_getR h (index := 7) (j := 0) iM_0_0 (C := RX6) (T := TX6) (N := 13) rfl n_X6_strikes_6 (by decide) rfl (by decide +kernel) dX6_strikes_243 ?_
      refine g_iload h 5 dX6_strikes_246 rfl ?_
      refine g_iconst h 4 dX6_strikes_248 (by decide) ?_
      refine g_iadd h dX6_strikes_249 ?_
      refine g_iald h (v := T 1 ((b5 + 4).toNatClampNeg)) (uMr M0 0 _ _ _) iM_0_1 dX6_strikes_250 ?_
      refine g_ni (fun v4 => ?_)
      refine g_aload_n h 1 dX6_strikes_251 rfl rfl ?_
      refine g_getR h (index := 7) (j := 0) iM_0_0 (C := RX6) (T := TX6) (N := 13) rfl n_X6_strikes_6 (by decide) rfl (by decide +kernel) dX6_strikes_252 ?_
      refine g_iload h 6 dX6_strikes_255 rfl ?_
      refine g_iconst h 4 dX6_strikes_257 (by decide) ?_
      refine g_iadd h dX6_strikes_258 ?_
      refine g_iald h (v := T 1 ((b6 + 4).toNatClampNeg)) (uMr M0 0 _ _ _) iM_0_1 dX6_strikes_259 ?_
      refine g_ni (fun v5 => ?_)
      refine g_iadd h dX6_strikes_260 ?_
      refine g_iadd h dX6_strikes_261 ?_
      refine g_iast h (x' := wT T 1 ((b1 + 1).toNatClampNeg) (v3 + (v4 + v5))) (wM_uM M0 0 _ _ _ _).symm iM_0_1 dX6_strikes_262 ?_
      refine g_nm (fun T6 => ?_)
      refine g_aload_n h 1 dX6_strikes_263 rfl rfl ?_
      refine g_iload h 5 dX6_strikes_264 rfl ?_
      refine g_bipush h (-5) dX6_strikes_266 (by decide) ?_
      refine g_callV h (As := [.int b5, .int (-5)]) (fun t => t) (fun r t hG => c_X6_smashes l ω M0 _ b5 (-5) hG) iM_0_0 (C := RX6) (T := TX6) (N := 13) rfl 2 rfl gX6_strikes_X6_smashes rfl rfl rfl (by decide +kernel) (by decide) (st0 := _) rfl (Nat.le_of_ble_eq_true rfl) dX6_strikes_268 (fun r7 T8 => ?_)
      refine g_aload_n h 1 dX6_strikes_271 rfl rfl ?_
      refine g_iload h 6 dX6_strikes_272 rfl ?_
      refine g_bipush h (-5) dX6_strikes_274 (by decide) ?_
      refine g_callV h (As := [.int b6, .int (-5)]) (fun t => t) (fun r t hG => c_X6_smashes l ω M0 _ b6 (-5) hG) iM_0_0 (C := RX6) (T := TX6) (N := 13) rfl 2 rfl gX6_strikes_X6_smashes rfl rfl rfl (by decide +kernel) (by decide) (st0 := _) rfl (Nat.le_of_ble_eq_true rfl) dX6_strikes_276 (fun r9 T10 => ?_)
      refine g_goto h (tgt := 371) dX6_strikes_279 (by decide) ?_
      refine g_sub (lv' := [(0, .ref (th ω 0 0)), (5, .int b5), (6, .int b6), (7, .int b7), (8, .int s0)]) [1, 5, 6, 7, 0] rfl ?_
      exact b_X6_strikes_371 h hR _ _ _ _ _
set_option maxHeartbeats 4000000 in
set_option maxRecDepth 100000 in
theorem b_X6_strikes_200 {Γ : Cx} {l : Launch} {ω : Wd} {M0 : Mm}  (h : CxOk Γ l ⟨1, 0, 0, 22⟩ 11 ω LM cX6_strikes yX6_strikes.cls wsX6_strikes) (hR : RetI Γ ω LM cX6_strikes .int) : ∀ (b1 : Int32) (b2 : Int32) (b3 : Int32) (b5 : Int32) (b6 : Int32) (s0 : Int32) (T : Tm), Gq Γ ω LM (uM M0 0) 200 [(0, .ref (th ω 0 0)), (1, .int b1), (2, .int b2), (3, .int b3), (5, .int b5), (6, .int b6)] [.int s0] T (m_X6_strikes_200 b1 b2 b3 b5 b6 s0 T) := by
  intro b1 b2 b3 b5 b6 s0 T
  unfold m_X6_strikes_200
  refine g_istore h (lv' := [(7, .int s0), (0, .ref (th ω 0 0)), (1, .int b1), (2, .int b2), (3, .int b3), (5, .int b5), (6, .int b6)]) dX6_strikes_200 (by decide) [0, 1, 2, 3, 4, 5, 6] rfl ?_
  refine g_aload_n h 1 dX6_strikes_202 rfl rfl ?_
  refine g_getR h (index := 7) (j := 0) iM_0_0 (C := RX6) (T := TX6) (N := 13) rfl n_X6_strikes_6 (by decide) rfl (by decide +kernel) dX6_strikes_203 ?_
  refine g_iload h 6 dX6_strikes_206 rfl ?_
  refine g_iconst h 2 dX6_strikes_208 (by decide) ?_
  refine g_iadd h dX6_strikes_209 ?_
  refine g_iald h (v := T 1 ((b6 + 2).toNatClampNeg)) (uMr M0 0 _ _ _) iM_0_1 dX6_strikes_210 ?_
  refine g_ni (fun v1 => ?_)
  refine g_bipush h 100 dX6_strikes_211 (by decide) ?_
  refine g_icmp_ne h 220 dX6_strikes_213 (by decide) (fun hc2 => ?_) (fun hc2 => ?_)
  · skip
    refine g_iconst h 1 dX6_strikes_216 (by decide) ?_
    refine g_goto h (tgt := 221) dX6_strikes_217 (by decide) ?_
    refine g_sub (lv' := [(0, .ref (th ω 0 0)), (1, .int b1), (2, .int b2), (3, .int b3), (5, .int b5), (6, .int b6), (7, .int s0)]) [1, 2, 3, 4, 5, 6, 0] rfl ?_
    exact b_X6_strikes_221 h hR _ _ _ _ _ _ _ _
  · skip
    refine g_iconst h 0 dX6_strikes_220 (by decide) ?_
    refine g_sub (lv' := [(0, .ref (th ω 0 0)), (1, .int b1), (2, .int b2), (3, .int b3), (5, .int b5), (6, .int b6), (7, .int s0)]) [1, 2, 3, 4, 5, 6, 0] rfl ?_
    exact b_X6_strikes_221 h hR _ _ _ _ _ _ _ _
set_option maxHeartbeats 4000000 in
set_option maxRecDepth 100000 in
theorem b_X6_strikes_137 {Γ : Cx} {l : Launch} {ω : Wd} {M0 : Mm}  (h : CxOk Γ l ⟨1, 0, 0, 22⟩ 11 ω LM cX6_strikes yX6_strikes.cls wsX6_strikes) (hR : RetI Γ ω LM cX6_strikes .int) : ∀ (b1 : Int32) (b2 : Int32) (b3 : Int32) (b5 : Int32) (b6 : Int32) (s1 : Int32) (s2 : Int32) (s3 : Int32) (T : Tm), Gq Γ ω LM (uM M0 0) 137 [(0, .ref (th ω 0 0)), (1, .int b1), (2, .int b2), (3, .int b3), (5, .int b5), (6, .int b6)] [.int s3, .int s2, .int s1, .ref (th ω 0 1)] T (m_X6_strikes_137 b1 b2 b3 b5 b6 s1 s2 s3 T) := by
  intro b1 b2 b3 b5 b6 s1 s2 s3 T
  unfold m_X6_strikes_137
  refine g_iadd h dX6_strikes_137 ?_
  refine g_bipush h 20 dX6_strikes_138 (by decide) ?_
  refine g_callP h (As := [.int (s2 + s3), .int 20]) (fun r t hG => c_X6_less l ω M00 (s2 + s3) 20 hG) 2 rfl gX6_strikes_X6_less rfl rfl rfl (by decide +kernel) (by decide) (st0 := _) rfl (Nat.le_of_ble_eq_true rfl) dX6_strikes_140 (fun r1 => ?_)
  refine g_iast h (x' := wT T 1 s1.toNatClampNeg r1) (wM_uM M0 0 _ _ _ _).symm iM_0_1 dX6_strikes_143 ?_
  refine g_nm (fun T2 => ?_)
  refine g_aload_n h 0 dX6_strikes_144 rfl rfl ?_
  refine g_getR h (index := 7) (j := 0) iM_0_0 (C := RX6) (T := TX6) (N := 13) rfl n_X6_strikes_6 (by decide) rfl (by decide +kernel) dX6_strikes_145 ?_
  refine g_iload h 5 dX6_strikes_148 rfl ?_
  refine g_iconst h 3 dX6_strikes_150 (by decide) ?_
  refine g_iadd h dX6_strikes_151 ?_
  refine g_aload_n h 0 dX6_strikes_152 rfl rfl ?_
  refine g_getR h (index := 7) (j := 0) iM_0_0 (C := RX6) (T := TX6) (N := 13) rfl n_X6_strikes_6 (by decide) rfl (by decide +kernel) dX6_strikes_153 ?_
  refine g_iload h 5 dX6_strikes_156 rfl ?_
  refine g_iconst h 3 dX6_strikes_158 (by decide) ?_
  refine g_iadd h dX6_strikes_159 ?_
  refine g_iald h (v := T2 1 ((b6 + 3).toNatClampNeg)) (uMr M0 0 _ _ _) iM_0_1 dX6_strikes_160 ?_
  refine g_ni (fun v3 => ?_)
  refine g_iconst h 1 dX6_strikes_161 (by decide) ?_
  refine g_iadd h dX6_strikes_162 ?_
  refine g_bipush h 20 dX6_strikes_163 (by decide) ?_
  refine g_callP h (As := [.int (v3 + 1), .int 20]) (fun r t hG => c_X6_less l ω M00 (v3 + 1) 20 hG) 2 rfl gX6_strikes_X6_less rfl rfl rfl (by decide +kernel) (by decide) (st0 := _) rfl (Nat.le_of_ble_eq_true rfl) dX6_strikes_165 (fun r4 => ?_)
  refine g_iast h (x' := wT T2 1 ((b6 + 3).toNatClampNeg) r4) (wM_uM M0 0 _ _ _ _).symm iM_0_1 dX6_strikes_168 ?_
  refine g_nm (fun T5 => ?_)
  refine g_aload_n h 0 dX6_strikes_169 rfl rfl ?_
  refine g_getR h (index := 7) (j := 0) iM_0_0 (C := RX6) (T := TX6) (N := 13) rfl n_X6_strikes_6 (by decide) rfl (by decide +kernel) dX6_strikes_170 ?_
  refine g_iload_n h 1 dX6_strikes_173 rfl rfl ?_
  refine g_iconst h 2 dX6_strikes_174 (by decide) ?_
  refine g_iadd h dX6_strikes_175 ?_
  refine g_dup2 h dX6_strikes_176 rfl rfl ?_
  refine g_iald h (v := T5 1 ((b1 + 2).toNatClampNeg)) (uMr M0 0 _ _ _) iM_0_1 dX6_strikes_177 ?_
  refine g_ni (fun v6 => ?_)
  refine g_iconst h 1 dX6_strikes_178 (by decide) ?_
  refine g_iadd h dX6_strikes_179 ?_
  refine g_iast h (x' := wT T5 1 ((b1 + 2).toNatClampNeg) (v6 + 1)) (wM_uM M0 0 _ _ _ _).symm iM_0_1 dX6_strikes_180 ?_
  refine g_nm (fun T7 => ?_)
  refine g_aload_n h 0 dX6_strikes_181 rfl rfl ?_
  refine g_getR h (index := 7) (j := 0) iM_0_0 (C := RX6) (T := TX6) (N := 13) rfl n_X6_strikes_6 (by decide) rfl (by decide +kernel) dX6_strikes_182 ?_
  refine g_iload h 4 dX6_strikes_185 rfl ?_
  refine g_iconst h 2 dX6_strikes_187 (by decide) ?_
  refine g_iadd h dX6_strikes_188 ?_
  refine g_iald h (v := T7 1 ((b5 + 2).toNatClampNeg)) (uMr M0 0 _ _ _) iM_0_1 dX6_strikes_189 ?_
  refine g_ni (fun v8 => ?_)
  refine g_bipush h 100 dX6_strikes_190 (by decide) ?_
  refine g_icmp_ne h 199 dX6_strikes_192 (by decide) (fun hc9 => ?_) (fun hc9 => ?_)
  · skip
    refine g_iconst h 1 dX6_strikes_195 (by decide) ?_
    refine g_goto h (tgt := 200) dX6_strikes_196 (by decide) ?_
    exact b_X6_strikes_200 h hR _ _ _ _ _ _ _
  · skip
    refine g_iconst h 0 dX6_strikes_199 (by decide) ?_
    exact b_X6_strikes_200 h hR _ _ _ _ _ _ _
set_option maxHeartbeats 4000000 in
set_option maxRecDepth 100000 in
theorem c_X6_strikes (l : Launch) (ω : Wd)  (M0 : Mm) (T : Tm) (a1 : Int32) (a2 : Int32) (a3 : Int32) (a4 : Int32) {r : Int32} {T' : Tm} (hm : m_X6_strikes a1 a2 a3 a4 T = some (r, T')) : MI l yX6_strikes wsX6_strikes ⟨1, 0, 0, 22⟩ ω LM [.ref (th ω 0 0), .int a1, .int a2, .int a3, .int a4] (uM M0 0 T) r (uM M0 0 T') := by
  refine met_i (cc := cX6_strikes) (maxL := 11) (ty := .int) (by decide +kernel) rfl (Nat.le_of_ble_eq_true rfl) LM_nd ?_
  intro Γ h hR ht
  suffices K : Gq Γ ω LM (uM M0 0) 0 [(0, .ref (th ω 0 0)), (1, .int a1), (2, .int a2), (3, .int a3), (4, .int a4)] [] T (m_X6_strikes a1 a2 a3 a4 T) from K (r, T') hm ht
  unfold m_X6_strikes
  refine g_iload_n h 1 dX6_strikes_0 rfl rfl ?_
  refine g_iload_n h 2 dX6_strikes_1 rfl rfl ?_
  refine g_callP h (As := [.int a1, .int a2]) (fun r t hG => c_X6_at l ω M00 a1 a2 hG) 2 rfl gX6_strikes_X6_at rfl rfl rfl (by decide +kernel) (by decide) (st0 := _) rfl (Nat.le_of_ble_eq_true rfl) dX6_strikes_2 (fun r1 => ?_)
  refine g_istore h (lv' := [(5, .int r1), (0, .ref (th ω 0 0)), (1, .int a1), (2, .int a2), (3, .int a3), (4, .int a4)]) dX6_strikes_5 (by decide) [0, 1, 2, 3, 4, 5] rfl ?_
  refine g_iload_n h 2 dX6_strikes_7 rfl rfl ?_
  refine g_iload_n h 4 dX6_strikes_8 rfl rfl ?_
  refine g_callP h (As := [.int a1, .int a3]) (fun r t hG => c_X6_at l ω M00 a1 a3 hG) 2 rfl gX6_strikes_X6_at rfl rfl rfl (by decide +kernel) (by decide) (st0 := _) rfl (Nat.le_of_ble_eq_true rfl) dX6_strikes_9 (fun r2 => ?_)
  refine g_istore h (lv' := [(6, .int r2), (5, .int r1), (0, .ref (th ω 0 0)), (1, .int a1), (2, .int a2), (3, .int a3), (4, .int a4)]) dX6_strikes_12 (by decide) [0, 1, 2, 3, 4, 5, 6] rfl ?_
  refine g_aload_n h 2 dX6_strikes_14 rfl rfl ?_
  refine g_getR h (index := 7) (j := 0) iM_0_0 (C := RX6) (T := TX6) (N := 13) rfl n_X6_strikes_6 (by decide) rfl (by decide +kernel) dX6_strikes_15 ?_
  refine g_iload h 0 dX6_strikes_18 rfl ?_
  refine g_iconst h 2 dX6_strikes_20 (by decide) ?_
  refine g_iadd h dX6_strikes_21 ?_
  refine g_aload_n h 2 dX6_strikes_22 rfl rfl ?_
  refine g_getR h (index := 7) (j := 0) iM_0_0 (C := RX6) (T := TX6) (N := 13) rfl n_X6_strikes_6 (by decide) rfl (by decide +kernel) dX6_strikes_23 ?_
  refine g_iload h 0 dX6_strikes_26 rfl ?_
  refine g_iconst h 2 dX6_strikes_28 (by decide) ?_
  refine g_iadd h dX6_strikes_29 ?_
  refine g_iald h (v := T 1 ((r2 + 2).toNatClampNeg)) (uMr M0 0 _ _ _) iM_0_1 dX6_strikes_30 ?_
  refine g_ni (fun v3 => ?_)
  refine g_iload h 6 dX6_strikes_31 rfl ?_
  refine g_aload_n h 2 dX6_strikes_33 rfl rfl ?_
  refine g_getR h (index := 7) (j := 0) iM_0_0 (C := RX6) (T := TX6) (N := 13) rfl n_X6_strikes_6 (by decide) rfl (by decide +kernel) dX6_strikes_34 ?_
  refine g_iload h 1 dX6_strikes_37 rfl ?_
  refine g_iconst h 1 dX6_strikes_39 (by decide) ?_
  refine g_iadd h dX6_strikes_40 ?_
  refine g_iald h (v := T 1 ((r1 + 1).toNatClampNeg)) (uMr M0 0 _ _ _) iM_0_1 dX6_strikes_41 ?_
  refine g_ni (fun v4 => ?_)
  refine g_imul h dX6_strikes_42 ?_
  refine g_aload_n h 2 dX6_strikes_43 rfl rfl ?_
  refine g_getR h (index := 7) (j := 0) iM_0_0 (C := RX6) (T := TX6) (N := 13) rfl n_X6_strikes_6 (by decide) rfl (by decide +kernel) dX6_strikes_44 ?_
  refine g_iload h 0 dX6_strikes_47 rfl ?_
  refine g_iconst h 1 dX6_strikes_49 (by decide) ?_
  refine g_iadd h dX6_strikes_50 ?_
  refine g_iald h (v := T 1 ((r2 + 1).toNatClampNeg)) (uMr M0 0 _ _ _) iM_0_1 dX6_strikes_51 ?_
  refine g_ni (fun v5 => ?_)
  refine g_idiv h dX6_strikes_52 ?_
  refine g_iadd h dX6_strikes_53 ?_
  refine g_bipush h 100 dX6_strikes_54 (by decide) ?_
  refine g_callP h (As := [.int (v3 + ((a4 * v4) / v5)), .int 100]) (fun r t hG => c_X6_less l ω M00 (v3 + ((a4 * v4) / v5)) 100 hG) 2 rfl gX6_strikes_X6_less rfl rfl rfl (by decide +kernel) (by decide) (st0 := _) rfl (Nat.le_of_ble_eq_true rfl) dX6_strikes_56 (fun r6 => ?_)
  refine g_iast h (x' := wT T 1 ((r2 + 2).toNatClampNeg) r6) (wM_uM M0 0 _ _ _ _).symm iM_0_1 dX6_strikes_59 ?_
  refine g_nm (fun T7 => ?_)
  refine g_aload_n h 2 dX6_strikes_60 rfl rfl ?_
  refine g_getR h (index := 7) (j := 0) iM_0_0 (C := RX6) (T := TX6) (N := 13) rfl n_X6_strikes_6 (by decide) rfl (by decide +kernel) dX6_strikes_61 ?_
  refine g_iload h 1 dX6_strikes_64 rfl ?_
  refine g_iconst h 2 dX6_strikes_66 (by decide) ?_
  refine g_iadd h dX6_strikes_67 ?_
  refine g_aload_n h 2 dX6_strikes_68 rfl rfl ?_
  refine g_getR h (index := 7) (j := 0) iM_0_0 (C := RX6) (T := TX6) (N := 13) rfl n_X6_strikes_6 (by decide) rfl (by decide +kernel) dX6_strikes_69 ?_
  refine g_iload h 1 dX6_strikes_72 rfl ?_
  refine g_iconst h 2 dX6_strikes_74 (by decide) ?_
  refine g_iadd h dX6_strikes_75 ?_
  refine g_iald h (v := T7 1 ((r1 + 2).toNatClampNeg)) (uMr M0 0 _ _ _) iM_0_1 dX6_strikes_76 ?_
  refine g_ni (fun v8 => ?_)
  refine g_iload h 6 dX6_strikes_77 rfl ?_
  refine g_aload_n h 2 dX6_strikes_79 rfl rfl ?_
  refine g_getR h (index := 7) (j := 0) iM_0_0 (C := RX6) (T := TX6) (N := 13) rfl n_X6_strikes_6 (by decide) rfl (by decide +kernel) dX6_strikes_80 ?_
  refine g_iload h 0 dX6_strikes_83 rfl ?_
  refine g_iconst h 1 dX6_strikes_85 (by decide) ?_
  refine g_iadd h dX6_strikes_86 ?_
  refine g_iald h (v := T7 1 ((r2 + 1).toNatClampNeg)) (uMr M0 0 _ _ _) iM_0_1 dX6_strikes_87 ?_
  refine g_ni (fun v9 => ?_)
  refine g_imul h dX6_strikes_88 ?_
  refine g_iconst h 2 dX6_strikes_89 (by decide) ?_
  refine g_aload_n h 2 dX6_strikes_90 rfl rfl ?_
  refine g_getR h (index := 7) (j := 0) iM_0_0 (C := RX6) (T := TX6) (N := 13) rfl n_X6_strikes_6 (by decide) rfl (by decide +kernel) dX6_strikes_91 ?_
  refine g_iload h 1 dX6_strikes_94 rfl ?_
  refine g_iconst h 1 dX6_strikes_96 (by decide) ?_
  refine g_iadd h dX6_strikes_97 ?_
  refine g_iald h (v := T7 1 ((r1 + 1).toNatClampNeg)) (uMr M0 0 _ _ _) iM_0_1 dX6_strikes_98 ?_
  refine g_ni (fun v10 => ?_)
  refine g_imul h dX6_strikes_99 ?_
  refine g_idiv h dX6_strikes_100 ?_
  refine g_iadd h dX6_strikes_101 ?_
  refine g_bipush h 100 dX6_strikes_102 (by decide) ?_
  refine g_callP h (As := [.int (v8 + ((a4 * v9) / (2 * v10))), .int 100]) (fun r t hG => c_X6_less l ω M00 (v8 + ((a4 * v9) / (2 * v10))) 100 hG) 2 rfl gX6_strikes_X6_less rfl rfl rfl (by decide +kernel) (by decide) (st0 := _) rfl (Nat.le_of_ble_eq_true rfl) dX6_strikes_104 (fun r11 => ?_)
  refine g_iast h (x' := wT T7 1 ((r1 + 2).toNatClampNeg) r11) (wM_uM M0 0 _ _ _ _).symm iM_0_1 dX6_strikes_107 ?_
  refine g_nm (fun T12 => ?_)
  refine g_aload_n h 2 dX6_strikes_108 rfl rfl ?_
  refine g_getR h (index := 7) (j := 0) iM_0_0 (C := RX6) (T := TX6) (N := 13) rfl n_X6_strikes_6 (by decide) rfl (by decide +kernel) dX6_strikes_109 ?_
  refine g_iload h 1 dX6_strikes_112 rfl ?_
  refine g_iconst h 3 dX6_strikes_114 (by decide) ?_
  refine g_iadd h dX6_strikes_115 ?_
  refine g_aload_n h 2 dX6_strikes_116 rfl rfl ?_
  refine g_getR h (index := 7) (j := 0) iM_0_0 (C := RX6) (T := TX6) (N := 13) rfl n_X6_strikes_6 (by decide) rfl (by decide +kernel) dX6_strikes_117 ?_
  refine g_iload h 1 dX6_strikes_120 rfl ?_
  refine g_iconst h 3 dX6_strikes_122 (by decide) ?_
  refine g_iadd h dX6_strikes_123 ?_
  refine g_iald h (v := T12 1 ((r1 + 3).toNatClampNeg)) (uMr M0 0 _ _ _) iM_0_1 dX6_strikes_124 ?_
  refine g_ni (fun v13 => ?_)
  refine g_iload h 6 dX6_strikes_125 rfl ?_
  refine g_bipush h 6 dX6_strikes_127 (by decide) ?_
  refine g_icmp_le h 136 dX6_strikes_129 (by decide) (fun hc14 => ?_) (fun hc14 => ?_)
  · skip
    refine g_iconst h 1 dX6_strikes_136 (by decide) ?_
    refine g_sub (lv' := [(0, .ref (th ω 0 0)), (1, .int a1), (2, .int a2), (3, .int a3), (5, .int r1), (6, .int r2)]) [2, 3, 4, 5, 1, 0] rfl ?_
    exact b_X6_strikes_137 h hR _ _ _ _ _ _ _ _ _
  · skip
    refine g_iconst h 2 dX6_strikes_132 (by decide) ?_
    refine g_goto h (tgt := 137) dX6_strikes_133 (by decide) ?_
    refine g_sub (lv' := [(0, .ref (th ω 0 0)), (1, .int a1), (2, .int a2), (3, .int a3), (5, .int r1), (6, .int r2)]) [2, 3, 4, 5, 1, 0] rfl ?_
    exact b_X6_strikes_137 h hR _ _ _ _ _ _ _ _ _
theorem n_X6_fights_6 : ∀ w ∈ wsX60, w ∈ wsX6_fights := by decide +kernel
set_option maxHeartbeats 4000000 in
set_option maxRecDepth 100000 in
theorem b_X6_fights_100 {Γ : Cx} {l : Launch} {ω : Wd} {M0 : Mm}  (h : CxOk Γ l ⟨2, 0, 0, 52⟩ 9 ω LM cX6_fights yX6_fights.cls wsX6_fights) (hR : RetI Γ ω LM cX6_fights .int) : ∀ (b6 : Int32) (T : Tm), Gq Γ ω LM (uM M0 0) 100 [(6, .int b6)] [] T (m_X6_fights_100 b6 T) := by
  intro b6 T
  unfold m_X6_fights_100
  refine g_iload h 0 dX6_fights_100 rfl ?_
  exact g_iret hR rfl dX6_fights_102
set_option maxHeartbeats 4000000 in
set_option maxRecDepth 100000 in
theorem b_X6_fights_18 {Γ : Cx} {l : Launch} {ω : Wd} {M0 : Mm}  (h : CxOk Γ l ⟨2, 0, 0, 52⟩ 9 ω LM cX6_fights yX6_fights.cls wsX6_fights) (hR : RetI Γ ω LM cX6_fights .int) : ∀ (n : Nat) (b1 : Int32) (b2 : Int32) (b3 : Int32) (b4 : Int32) (b5 : Int32) (b6 : Int32) (T : Tm), Gq Γ ω LM (uM M0 0) 18 [(0, .ref (th ω 0 0)), (1, .int b1), (2, .int b2), (3, .int b3), (4, .int b4), (5, .int b5), (6, .int b6)] [] T (m_X6_fights_18 n b1 b2 b3 b4 b5 b6 T) := by
  intro n
  induction n with
  | zero =>
    intro b1 b2 b3 b4 b5 b6 T
    rw [m_X6_fights_18.eq_1]
    exact g_none
  | succ n ih =>
    intro b1 b2 b3 b4 b5 b6 T
    rw [m_X6_fights_18.eq_2]
    refine g_iload h 6 dX6_fights_18 rfl ?_
    refine g_bipush h 20 dX6_fights_20 (by decide) ?_
    refine g_icmp_ge h 100 dX6_fights_22 (by decide) (fun hc1 => ?_) (fun hc1 => ?_)
    · skip
      refine g_sub (lv' := [(6, .int b6)]) [6] rfl ?_
      exact b_X6_fights_100 h hR _ _
    · skip
      refine g_aload_n h 0 dX6_fights_25 rfl rfl ?_
      refine g_getR h (index := 7) (j := 0) iM_0_0 (C := RX6) (T := TX6) (N := 13) rfl n_X6_fights_6 (by decide) rfl (by decide +kernel) dX6_fights_26 ?_
      refine g_iload_n h 1 dX6_fights_29 rfl rfl ?_
      refine g_iload_n h 2 dX6_fights_30 rfl rfl ?_
      refine g_callP h (As := [.int b1, .int b2]) (fun r t hG => c_X6_at l ω M00 b1 b2 hG) 2 rfl gX6_fights_X6_at rfl rfl rfl (by decide +kernel) (by decide) (st0 := _) rfl (Nat.le_of_ble_eq_true rfl) dX6_fights_31 (fun r2 => ?_)
      refine g_bipush h 6 dX6_fights_34 (by decide) ?_
      refine g_iadd h dX6_fights_36 ?_
      refine g_iald h (v := T 1 ((r2 + 6).toNatClampNeg)) (uMr M0 0 _ _ _) iM_0_1 dX6_fights_37 ?_
      refine g_ni (fun v3 => ?_)
      refine g_if_ne h 100 dX6_fights_38 (by decide) (fun hc4 => ?_) (fun hc4 => ?_)
      · skip
        refine g_aload_n h 0 dX6_fights_41 rfl rfl ?_
        refine g_getR h (index := 7) (j := 0) iM_0_0 (C := RX6) (T := TX6) (N := 13) rfl n_X6_fights_6 (by decide) rfl (by decide +kernel) dX6_fights_42 ?_
        refine g_iload_n h 1 dX6_fights_45 rfl rfl ?_
        refine g_iload_n h 3 dX6_fights_46 rfl rfl ?_
        refine g_callP h (As := [.int b1, .int b3]) (fun r t hG => c_X6_at l ω M00 b1 b3 hG) 2 rfl gX6_fights_X6_at rfl rfl rfl (by decide +kernel) (by decide) (st0 := _) rfl (Nat.le_of_ble_eq_true rfl) dX6_fights_47 (fun r5 => ?_)
        refine g_bipush h 6 dX6_fights_50 (by decide) ?_
        refine g_iadd h dX6_fights_52 ?_
        refine g_iald h (v := T 1 ((r5 + 6).toNatClampNeg)) (uMr M0 0 _ _ _) iM_0_1 dX6_fights_53 ?_
        refine g_ni (fun v6 => ?_)
        refine g_if_ne h 100 dX6_fights_54 (by decide) (fun hc7 => ?_) (fun hc7 => ?_)
        · skip
          refine g_aload_n h 0 dX6_fights_57 rfl rfl ?_
          refine g_callV h (As := []) (fun t => t) (fun r t hG => c_X6_goesOn l ω M0 _ hG) iM_0_0 (C := RX6) (T := TX6) (N := 13) rfl 0 rfl gX6_fights_X6_goesOn rfl rfl rfl (by decide +kernel) (by decide) (st0 := _) rfl (Nat.le_of_ble_eq_true rfl) dX6_fights_58 (fun r8 T9 => ?_)
          refine g_aload_n h 0 dX6_fights_61 rfl rfl ?_
          refine g_iload_n h 1 dX6_fights_62 rfl rfl ?_
          refine g_iload h 4 dX6_fights_63 rfl ?_
          refine g_iload h 5 dX6_fights_65 rfl ?_
          refine g_iconst h 1 dX6_fights_67 (by decide) ?_
          refine g_aload_n h 0 dX6_fights_68 rfl rfl ?_
          refine g_getI h (v := T9 0 5) (uMr M0 0 _ _ _) (index := 44) (j := 5) iM_0_0 (C := RX6) (T := TX6) (N := 13) rfl n_X6_fights_6 (by decide) rfl (by decide +kernel) dX6_fights_69 ?_
          refine g_ni (fun v10 => ?_)
          refine g_sipush h 7282 dX6_fights_72 (by decide) ?_
          refine g_idiv h dX6_fights_75 ?_
          refine g_iadd h dX6_fights_76 ?_
          refine g_callI h (As := [.int b1, .int b4, .int b5, .int (1 + (v10 / 7282))]) (fun t => t) (fun r t hG => c_X6_strikes l ω M0 _ b1 b4 b5 (1 + (v10 / 7282)) hG) iM_0_0 (C := RX6) (T := TX6) (N := 13) rfl 4 rfl gX6_fights_X6_strikes rfl rfl rfl (by decide +kernel) (by decide) (st0 := _) rfl (Nat.le_of_ble_eq_true rfl) dX6_fights_77 (fun r11 T12 => ?_)
          refine g_istore h (lv' := [(7, .int r11), (0, .ref (th ω 0 0)), (1, .int b1), (2, .int b2), (3, .int b3), (4, .int b4), (5, .int b5), (6, .int b6)]) dX6_fights_80 (by decide) [0, 1, 2, 3, 4, 5, 6, 7] rfl ?_
          refine g_iload h 6 dX6_fights_82 rfl ?_
          refine g_istore h (lv' := [(8, .int b5), (7, .int r11), (0, .ref (th ω 0 0)), (1, .int b1), (2, .int b2), (3, .int b3), (4, .int b4), (5, .int b5), (6, .int b6)]) dX6_fights_84 (by decide) [0, 1, 2, 3, 4, 5, 6, 7, 8] rfl ?_
          refine g_iload h 6 dX6_fights_86 rfl ?_
          refine g_istore h (lv' := [(5, .int b4), (8, .int b5), (7, .int r11), (0, .ref (th ω 0 0)), (1, .int b1), (2, .int b2), (3, .int b3), (4, .int b4), (6, .int b6)]) dX6_fights_88 (by decide) [0, 1, 2, 3, 4, 5, 6, 7, 8] rfl ?_
          refine g_iload h 1 dX6_fights_90 rfl ?_
          refine g_istore h (lv' := [(4, .int b5), (5, .int b4), (8, .int b5), (7, .int r11), (0, .ref (th ω 0 0)), (1, .int b1), (2, .int b2), (3, .int b3), (6, .int b6)]) dX6_fights_92 (by decide) [0, 1, 2, 3, 4, 5, 6, 7, 8] rfl ?_
          refine g_iinc h (b6 + 1) (lv' := [(6, .int (b6 + 1)), (4, .int b5), (5, .int b4), (8, .int b5), (7, .int r11), (0, .ref (th ω 0 0)), (1, .int b1), (2, .int b2), (3, .int b3)]) dX6_fights_94 8 rfl (congrArg (fun z => b6 + z) (by decide)) (by decide) [0, 1, 2, 3, 4, 5, 6, 7, 8] rfl ?_
          refine g_goto h (tgt := 18) dX6_fights_97 (by decide) ?_
          refine g_sub (lv' := [(0, .ref (th ω 0 0)), (1, .int b1), (2, .int b2), (3, .int b3), (4, .int b5), (5, .int b4), (6, .int (b6 + 1))]) [5, 6, 7, 8, 1, 2, 0] rfl ?_
          exact ih _ _ _ _ _ _ _
        · skip
          refine g_sub (lv' := [(6, .int b6)]) [6] rfl ?_
          exact b_X6_fights_100 h hR _ _
      · skip
        refine g_sub (lv' := [(6, .int b6)]) [6] rfl ?_
        exact b_X6_fights_100 h hR _ _
set_option maxHeartbeats 4000000 in
set_option maxRecDepth 100000 in
theorem c_X6_fights (l : Launch) (ω : Wd)  (M0 : Mm) (T : Tm) (a1 : Int32) (a2 : Int32) (a3 : Int32) {r : Int32} {T' : Tm} (hm : m_X6_fights a1 a2 a3 T = some (r, T')) : MI l yX6_fights wsX6_fights ⟨2, 0, 0, 52⟩ ω LM [.ref (th ω 0 0), .int a1, .int a2, .int a3] (uM M0 0 T) r (uM M0 0 T') := by
  refine met_i (cc := cX6_fights) (maxL := 9) (ty := .int) (by decide +kernel) rfl (Nat.le_of_ble_eq_true rfl) LM_nd ?_
  intro Γ h hR ht
  suffices K : Gq Γ ω LM (uM M0 0) 0 [(0, .ref (th ω 0 0)), (1, .int a1), (2, .int a2), (3, .int a3)] [] T (m_X6_fights a1 a2 a3 T) from K (r, T') hm ht
  unfold m_X6_fights
  refine g_iload_n h 2 dX6_fights_0 rfl rfl ?_
  refine g_iload_n h 3 dX6_fights_1 rfl rfl ?_
  refine g_callP h (As := [.int a2, .int a3]) (fun r t hG => c_X6_less l ω M00 a2 a3 hG) 2 rfl gX6_fights_X6_less rfl rfl rfl (by decide +kernel) (by decide) (st0 := _) rfl (Nat.le_of_ble_eq_true rfl) dX6_fights_2 (fun r1 => ?_)
  refine g_istore h (lv' := [(4, .int r1), (0, .ref (th ω 0 0)), (1, .int a1), (2, .int a2), (3, .int a3)]) dX6_fights_5 (by decide) [0, 1, 2, 3, 4] rfl ?_
  refine g_iload_n h 3 dX6_fights_7 rfl rfl ?_
  refine g_iload_n h 4 dX6_fights_8 rfl rfl ?_
  refine g_iadd h dX6_fights_9 ?_
  refine g_iload h 0 dX6_fights_10 rfl ?_
  refine g_isub h dX6_fights_12 ?_
  refine g_istore h (lv' := [(5, .int ((a2 + a3) - r1)), (4, .int r1), (0, .ref (th ω 0 0)), (1, .int a1), (2, .int a2), (3, .int a3)]) dX6_fights_13 (by decide) [0, 1, 2, 3, 4, 5] rfl ?_
  refine g_iconst h 0 dX6_fights_15 (by decide) ?_
  refine g_istore h (lv' := [(6, .int 0), (5, .int ((a2 + a3) - r1)), (4, .int r1), (0, .ref (th ω 0 0)), (1, .int a1), (2, .int a2), (3, .int a3)]) dX6_fights_16 (by decide) [0, 1, 2, 3, 4, 5, 6] rfl ?_
  refine g_sub (lv' := [(0, .ref (th ω 0 0)), (1, .int a1), (2, .int a2), (3, .int a3), (4, .int r1), (5, .int ((a2 + a3) - r1)), (6, .int 0)]) [3, 4, 5, 6, 2, 1, 0] rfl ?_
  exact b_X6_fights_18 h hR fu _ _ _ _ _ _ _
theorem n_X6_bout_6 : ∀ w ∈ wsX60, w ∈ wsX6_bout := by decide +kernel
set_option maxHeartbeats 4000000 in
set_option maxRecDepth 100000 in
theorem c_X6_bout (l : Launch) (ω : Wd)  (M0 : Mm) (T : Tm) (a1 : Int32) (a2 : Int32) (a3 : Int32) {r : Int32} {T' : Tm} (hm : m_X6_bout a1 a2 a3 T = some (r, T')) : MI l yX6_bout wsX6_bout ⟨4, 0, 0, 90⟩ ω LM [.ref (th ω 0 0), .int a1, .int a2, .int a3] (uM M0 0 T) r (uM M0 0 T') := by
  refine met_i (cc := cX6_bout) (maxL := 5) (ty := .int) (by decide +kernel) rfl (Nat.le_of_ble_eq_true rfl) LM_nd ?_
  intro Γ h hR ht
  suffices K : Gq Γ ω LM (uM M0 0) 0 [(0, .ref (th ω 0 0)), (1, .int a1), (2, .int a2), (3, .int a3)] [] T (m_X6_bout a1 a2 a3 T) from K (r, T') hm ht
  unfold m_X6_bout
  refine g_aload_n h 0 dX6_bout_0 rfl rfl ?_
  refine g_iload_n h 1 dX6_bout_1 rfl rfl ?_
  refine g_iload_n h 2 dX6_bout_2 rfl rfl ?_
  refine g_iload_n h 3 dX6_bout_3 rfl rfl ?_
  refine g_callI h (As := [.int a1, .int a2, .int a3]) (fun t => t) (fun r t hG => c_X6_boutError l ω M0 _ a1 a2 a3 hG) iM_0_0 (C := RX6) (T := TX6) (N := 13) rfl 3 rfl gX6_bout_X6_boutError rfl rfl rfl (by decide +kernel) (by decide) (st0 := _) rfl (Nat.le_of_ble_eq_true rfl) dX6_bout_4 (fun r1 T2 => ?_)
  refine g_istore h (lv' := [(4, .int r1), (0, .ref (th ω 0 0)), (1, .int a1), (2, .int a2), (3, .int a3)]) dX6_bout_7 (by decide) [0, 1, 2, 3, 4] rfl ?_
  refine g_iload h 0 dX6_bout_9 rfl ?_
  refine g_if_eq h 17 dX6_bout_11 (by decide) (fun hc3 => ?_) (fun hc3 => ?_)
  · skip
    refine g_aload_n h 1 dX6_bout_17 rfl rfl ?_
    refine g_callV h (As := []) (fun t => t) (fun r t hG => c_X6_records l ω M0 _ hG) iM_0_0 (C := RX6) (T := TX6) (N := 13) rfl 0 rfl gX6_bout_X6_records rfl rfl rfl (by decide +kernel) (by decide) (st0 := _) rfl (Nat.le_of_ble_eq_true rfl) dX6_bout_18 (fun r4 T5 => ?_)
    refine g_aload_n h 1 dX6_bout_21 rfl rfl ?_
    refine g_iload_n h 4 dX6_bout_22 rfl rfl ?_
    refine g_putI h (x' := wT T5 0 5 a3) (wM_uM M0 0 _ _ _ _).symm (index := 44) (j := 5) iM_0_0 (C := RX6) (T := TX6) (N := 13) rfl n_X6_bout_6 tyX6_ok nmX6 (by decide) rfl (by decide +kernel) rfl (ty := .int) (by decide +kernel) rfl rfl dX6_bout_23 ?_
    refine g_nm (fun T6 => ?_)
    refine g_aload_n h 1 dX6_bout_26 rfl rfl ?_
    refine g_iconst h 0 dX6_bout_27 (by decide) ?_
    refine g_iload_n h 2 dX6_bout_28 rfl rfl ?_
    refine g_iload_n h 3 dX6_bout_29 rfl rfl ?_
    refine g_callI h (As := [.int 0, .int a1, .int a2]) (fun t => t) (fun r t hG => c_X6_fights l ω M0 _ 0 a1 a2 hG) iM_0_0 (C := RX6) (T := TX6) (N := 13) rfl 3 rfl gX6_bout_X6_fights rfl rfl rfl (by decide +kernel) (by decide) (st0 := _) rfl (Nat.le_of_ble_eq_true rfl) dX6_bout_30 (fun r7 T8 => ?_)
    exact g_iret hR rfl dX6_bout_33
  · skip
    refine g_iload h 0 dX6_bout_14 rfl ?_
    exact g_iret hR rfl dX6_bout_16
theorem n_X6_clearText_6 : ∀ w ∈ wsX60, w ∈ wsX6_clearText := by decide +kernel
set_option maxHeartbeats 4000000 in
set_option maxRecDepth 100000 in
theorem c_X6_clearText (l : Launch) (ω : Wd)  (M0 : Mm) (T : Tm) {r : Int32} {T' : Tm} (hm : m_X6_clearText T = some (r, T')) : MI l yX6_clearText wsX6_clearText ⟨0, 0, 0, 0⟩ ω LM [.ref (th ω 0 0)] (uM M0 0 T) r (uM M0 0 T') := by
  refine met_i (cc := cX6_clearText) (maxL := 2) (ty := .int) (by decide +kernel) rfl (Nat.le_of_ble_eq_true rfl) LM_nd ?_
  intro Γ h hR ht
  suffices K : Gq Γ ω LM (uM M0 0) 0 [(0, .ref (th ω 0 0))] [] T (m_X6_clearText T) from K (r, T') hm ht
  unfold m_X6_clearText
  refine g_aload_n h 0 dX6_clearText_0 rfl rfl ?_
  refine g_getI h (v := T 0 4) (uMr M0 0 _ _ _) (index := 107) (j := 4) iM_0_0 (C := RX6) (T := TX6) (N := 13) rfl n_X6_clearText_6 (by decide) rfl (by decide +kernel) dX6_clearText_1 ?_
  refine g_ni (fun v1 => ?_)
  refine g_istore_n h rfl (lv' := [(1, .int v1), (0, .ref (th ω 0 0))]) dX6_clearText_4 (by decide) [0, 1] rfl ?_
  refine g_aload_n h 1 dX6_clearText_5 rfl rfl ?_
  refine g_iconst h 0 dX6_clearText_6 (by decide) ?_
  refine g_putI h (x' := wT T 0 4 0) (wM_uM M0 0 _ _ _ _).symm (index := 107) (j := 4) iM_0_0 (C := RX6) (T := TX6) (N := 13) rfl n_X6_clearText_6 tyX6_ok nmX6 (by decide) rfl (by decide +kernel) rfl (ty := .int) (by decide +kernel) rfl rfl dX6_clearText_7 ?_
  refine g_nm (fun T2 => ?_)
  refine g_iload_n h 0 dX6_clearText_10 rfl rfl ?_
  exact g_iret hR rfl dX6_clearText_11
theorem n_X6_heirOf_6 : ∀ w ∈ wsX60, w ∈ wsX6_heirOf := by decide +kernel
set_option maxHeartbeats 4000000 in
set_option maxRecDepth 100000 in
theorem b_X6_heirOf_37 {Γ : Cx} {l : Launch} {ω : Wd} {M0 : Mm}  (h : CxOk Γ l ⟨1, 0, 0, 21⟩ 4 ω LM cX6_heirOf yX6_heirOf.cls wsX6_heirOf) (hR : RetI Γ ω LM cX6_heirOf .int) (κ4 : Int32 → Int32 → Int32 → Tm → Option (Int32 × Tm)) (hκ4 : ∀ (b1 : Int32) (b2 : Int32) (b3 : Int32) (T : Tm), Gq Γ ω LM (uM M0 0) 4 [(0, .ref (th ω 0 0)), (1, .int b1), (2, .int b2), (3, .int b3)] [] T (κ4 b1 b2 b3 T)) : ∀ (b1 : Int32) (b3 : Int32) (s0 : Int32) (s1 : Int32) (T : Tm), Gq Γ ω LM (uM M0 0) 37 [(0, .ref (th ω 0 0)), (1, .int b1), (3, .int b3)] [.int s1, .int s0] T (m_X6_heirOf_37 κ4 b1 b3 s0 s1 T) := by
  intro b1 b3 s0 s1 T
  unfold m_X6_heirOf_37
  refine g_callP h (As := [.int s1]) (fun r t hG => c_X6_flag l ω M00 s1 hG) 1 rfl gX6_heirOf_X6_flag rfl rfl rfl (by decide +kernel) (by decide) (st0 := _) rfl (Nat.le_of_ble_eq_true rfl) dX6_heirOf_37 (fun r1 => ?_)
  refine g_iadd h dX6_heirOf_40 ?_
  refine g_istore_n h rfl (lv' := [(2, .int (s0 + r1)), (0, .ref (th ω 0 0)), (1, .int b1), (3, .int b3)]) dX6_heirOf_41 (by decide) [0, 1, 2, 3] rfl ?_
  refine g_iinc h (b3 + 1) (lv' := [(3, .int (b3 + 1)), (2, .int (s0 + r1)), (0, .ref (th ω 0 0)), (1, .int b1)]) dX6_heirOf_42 3 rfl (congrArg (fun z => b3 + z) (by decide)) (by decide) [0, 1, 2, 3] rfl ?_
  refine g_goto h (tgt := 4) dX6_heirOf_45 (by decide) ?_
  refine g_sub (lv' := [(0, .ref (th ω 0 0)), (1, .int b1), (2, .int (s0 + r1)), (3, .int (b3 + 1))]) [2, 3, 1, 0] rfl ?_
  exact hκ4 _ _ _ _
set_option maxHeartbeats 4000000 in
set_option maxRecDepth 100000 in
theorem b_X6_heirOf_4 {Γ : Cx} {l : Launch} {ω : Wd} {M0 : Mm}  (h : CxOk Γ l ⟨1, 0, 0, 21⟩ 4 ω LM cX6_heirOf yX6_heirOf.cls wsX6_heirOf) (hR : RetI Γ ω LM cX6_heirOf .int) : ∀ (n : Nat) (b1 : Int32) (b2 : Int32) (b3 : Int32) (T : Tm), Gq Γ ω LM (uM M0 0) 4 [(0, .ref (th ω 0 0)), (1, .int b1), (2, .int b2), (3, .int b3)] [] T (m_X6_heirOf_4 n b1 b2 b3 T) := by
  intro n
  induction n with
  | zero =>
    intro b1 b2 b3 T
    rw [m_X6_heirOf_4.eq_1]
    exact g_none
  | succ n ih =>
    intro b1 b2 b3 T
    rw [m_X6_heirOf_4.eq_2]
    refine g_iload_n h 3 dX6_heirOf_4 rfl rfl ?_
    refine g_aload_n h 0 dX6_heirOf_5 rfl rfl ?_
    refine g_getR h (index := 7) (j := 0) iM_0_0 (C := RX6) (T := TX6) (N := 13) rfl n_X6_heirOf_6 (by decide) rfl (by decide +kernel) dX6_heirOf_6 ?_
    refine g_iconst h 0 dX6_heirOf_9 (by decide) ?_
    refine g_iald h (v := T 1 ((0 : Int32).toNatClampNeg)) (uMr M0 0 _ _ _) iM_0_1 dX6_heirOf_10 ?_
    refine g_ni (fun v1 => ?_)
    refine g_icmp_ge h 48 dX6_heirOf_11 (by decide) (fun hc2 => ?_) (fun hc2 => ?_)
    · skip
      refine g_iload_n h 2 dX6_heirOf_48 rfl rfl ?_
      exact g_iret hR rfl dX6_heirOf_49
    · skip
      refine g_iload_n h 2 dX6_heirOf_14 rfl rfl ?_
      refine g_aload_n h 0 dX6_heirOf_15 rfl rfl ?_
      refine g_getR h (index := 7) (j := 0) iM_0_0 (C := RX6) (T := TX6) (N := 13) rfl n_X6_heirOf_6 (by decide) rfl (by decide +kernel) dX6_heirOf_16 ?_
      refine g_iconst h 0 dX6_heirOf_19 (by decide) ?_
      refine g_iload_n h 3 dX6_heirOf_20 rfl rfl ?_
      refine g_callP h (As := [.int 0, .int b3]) (fun r t hG => c_X6_at l ω M00 0 b3 hG) 2 rfl gX6_heirOf_X6_at rfl rfl rfl (by decide +kernel) (by decide) (st0 := _) rfl (Nat.le_of_ble_eq_true rfl) dX6_heirOf_21 (fun r3 => ?_)
      refine g_bipush h 7 dX6_heirOf_24 (by decide) ?_
      refine g_iadd h dX6_heirOf_26 ?_
      refine g_iald h (v := T 1 ((r3 + 7).toNatClampNeg)) (uMr M0 0 _ _ _) iM_0_1 dX6_heirOf_27 ?_
      refine g_ni (fun v4 => ?_)
      refine g_iload_n h 1 dX6_heirOf_28 rfl rfl ?_
      refine g_icmp_ne h 36 dX6_heirOf_29 (by decide) (fun hc5 => ?_) (fun hc5 => ?_)
      · skip
        refine g_iconst h 1 dX6_heirOf_32 (by decide) ?_
        refine g_goto h (tgt := 37) dX6_heirOf_33 (by decide) ?_
        refine g_sub (lv' := [(0, .ref (th ω 0 0)), (1, .int b1), (3, .int b3)]) [0, 1, 3] rfl ?_
        exact b_X6_heirOf_37 h hR _ ih _ _ _ _ _
      · skip
        refine g_iconst h 0 dX6_heirOf_36 (by decide) ?_
        refine g_sub (lv' := [(0, .ref (th ω 0 0)), (1, .int b1), (3, .int b3)]) [0, 1, 3] rfl ?_
        exact b_X6_heirOf_37 h hR _ ih _ _ _ _ _
set_option maxHeartbeats 4000000 in
set_option maxRecDepth 100000 in
theorem c_X6_heirOf (l : Launch) (ω : Wd)  (M0 : Mm) (T : Tm) (a1 : Int32) {r : Int32} {T' : Tm} (hm : m_X6_heirOf a1 T = some (r, T')) : MI l yX6_heirOf wsX6_heirOf ⟨1, 0, 0, 21⟩ ω LM [.ref (th ω 0 0), .int a1] (uM M0 0 T) r (uM M0 0 T') := by
  refine met_i (cc := cX6_heirOf) (maxL := 4) (ty := .int) (by decide +kernel) rfl (Nat.le_of_ble_eq_true rfl) LM_nd ?_
  intro Γ h hR ht
  suffices K : Gq Γ ω LM (uM M0 0) 0 [(0, .ref (th ω 0 0)), (1, .int a1)] [] T (m_X6_heirOf a1 T) from K (r, T') hm ht
  unfold m_X6_heirOf
  refine g_iconst h 0 dX6_heirOf_0 (by decide) ?_
  refine g_istore_n h rfl (lv' := [(2, .int 0), (0, .ref (th ω 0 0)), (1, .int a1)]) dX6_heirOf_1 (by decide) [0, 1, 2] rfl ?_
  refine g_iconst h 0 dX6_heirOf_2 (by decide) ?_
  refine g_istore_n h rfl (lv' := [(3, .int 0), (2, .int 0), (0, .ref (th ω 0 0)), (1, .int a1)]) dX6_heirOf_3 (by decide) [0, 1, 2, 3] rfl ?_
  refine g_sub (lv' := [(0, .ref (th ω 0 0)), (1, .int a1), (2, .int 0), (3, .int 0)]) [2, 3, 1, 0] rfl ?_
  exact b_X6_heirOf_4 h hR fu _ _ _ _
