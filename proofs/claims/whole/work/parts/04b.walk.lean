/-! WALKS (written by wip/whole/gen.py): X3_findFault, X4_addConker, X4_areInPlay, X4_boastsTold, X4_boastsTooHigh, X5_isWithin, X4_hasConker, X4_pairError, X4_boutError, X4_conkersAheadOf, X4_conkerAtRank, X4_isOf, X4_conkersBeing, X4_conkersSmashedBy, X4_conkersWithHeir, X4_takeVictoriesOfSmashed, X4_crush, X4_fallIfWorn, X4_fallenError, X4_quotient -/
theorem n_X3_findFault_3 : ∀ w ∈ wsX30, w ∈ wsX3_findFault := by decide +kernel
set_option maxHeartbeats 4000000 in
set_option maxRecDepth 100000 in
theorem b_X3_findFault_6 {Γ : Cx} {l : Launch} {ω : Wd} {M0 : Mm}  (h : CxOk Γ l ⟨4, 0, 0, 83⟩ 2 ω LC cX3_findFault yX3_findFault.cls wsX3_findFault) (hR : RetI Γ ω LC cX3_findFault .int) : ∀ (n : Nat) (b1 : Int32) (T : Tm), Gq Γ ω LC (uM M0 9) 6 [(0, .ref (th ω 9 0)), (1, .int b1)] [] T (m_X3_findFault_6 n b1 T) := by
  intro n
  induction n with
  | zero =>
    intro b1 T
    rw [m_X3_findFault_6.eq_1]
    exact g_none
  | succ n ih =>
    intro b1 T
    rw [m_X3_findFault_6.eq_2]
    refine g_iload_n h 1 dX3_findFault_6 rfl rfl ?_
    refine g_bipush h 60 dX3_findFault_7 (by decide) ?_
    refine g_icmp_ge h 58 dX3_findFault_9 (by decide) (fun hc1 => ?_) (fun hc1 => ?_)
    · skip
      refine g_aload_n h 0 dX3_findFault_58 rfl rfl ?_
      refine g_getI h (v := T 0 2) (uMr M0 9 _ _ _) (index := 19) (j := 2) iC_9_0 (C := RX3) (T := TX3) (N := 7) rfl n_X3_findFault_3 (by decide) rfl (by decide +kernel) dX3_findFault_59 ?_
      refine g_ni (fun v2 => ?_)
      exact g_iret hR rfl dX3_findFault_62
    · skip
      refine g_aload_n h 0 dX3_findFault_12 rfl rfl ?_
      refine g_callI h (As := []) (fun t => t) (fun r t hG => c_X3_readOrder l ω M0 _ hG) iC_9_0 (C := RX3) (T := TX3) (N := 7) rfl 0 rfl gX3_findFault_X3_readOrder rfl rfl rfl (by decide +kernel) (by decide) (st0 := _) rfl (Nat.le_of_ble_eq_true rfl) dX3_findFault_13 (fun r3 T4 => ?_)
      refine g_if_ne h 24 dX3_findFault_16 (by decide) (fun hc5 => ?_) (fun hc5 => ?_)
      · skip
        refine g_aload_n h 0 dX3_findFault_19 rfl rfl ?_
        refine g_getI h (v := T4 0 2) (uMr M0 9 _ _ _) (index := 19) (j := 2) iC_9_0 (C := RX3) (T := TX3) (N := 7) rfl n_X3_findFault_3 (by decide) rfl (by decide +kernel) dX3_findFault_20 ?_
        refine g_ni (fun v6 => ?_)
        exact g_iret hR rfl dX3_findFault_23
      · skip
        refine g_aload_n h 0 dX3_findFault_24 rfl rfl ?_
        refine g_getI h (v := T4 0 2) (uMr M0 9 _ _ _) (index := 19) (j := 2) iC_9_0 (C := RX3) (T := TX3) (N := 7) rfl n_X3_findFault_3 (by decide) rfl (by decide +kernel) dX3_findFault_25 ?_
        refine g_ni (fun v7 => ?_)
        refine g_aload_n h 0 dX3_findFault_28 rfl rfl ?_
        refine g_getI h (v := T4 0 1) (uMr M0 9 _ _ _) (index := 15) (j := 1) iC_9_0 (C := RX3) (T := TX3) (N := 7) rfl n_X3_findFault_3 (by decide) rfl (by decide +kernel) dX3_findFault_29 ?_
        refine g_ni (fun v8 => ?_)
        refine g_icmp_ne h 38 dX3_findFault_32 (by decide) (fun hc9 => ?_) (fun hc9 => ?_)
        · skip
          refine g_bipush h (-5) dX3_findFault_35 (by decide) ?_
          exact g_iret hR rfl dX3_findFault_37
        · skip
          refine g_aload_n h 0 dX3_findFault_38 rfl rfl ?_
          refine g_bipush h 44 dX3_findFault_39 (by decide) ?_
          refine g_callI h (As := [.int 44]) (fun t => t) (fun r t hG => c_X3_take l ω M0 _ 44 hG) iC_9_0 (C := RX3) (T := TX3) (N := 7) rfl 1 rfl gX3_findFault_X3_take rfl rfl rfl (by decide +kernel) (by decide) (st0 := _) rfl (Nat.le_of_ble_eq_true rfl) dX3_findFault_41 (fun r10 T11 => ?_)
          refine g_if_ne h 52 dX3_findFault_44 (by decide) (fun hc12 => ?_) (fun hc12 => ?_)
          · skip
            refine g_aload_n h 0 dX3_findFault_47 rfl rfl ?_
            refine g_getI h (v := T11 0 2) (uMr M0 9 _ _ _) (index := 19) (j := 2) iC_9_0 (C := RX3) (T := TX3) (N := 7) rfl n_X3_findFault_3 (by decide) rfl (by decide +kernel) dX3_findFault_48 ?_
            refine g_ni (fun v13 => ?_)
            exact g_iret hR rfl dX3_findFault_51
          · skip
            refine g_iinc h (b1 + 1) (lv' := [(1, .int (b1 + 1)), (0, .ref (th ω 9 0))]) dX3_findFault_52 1 rfl (congrArg (fun z => b1 + z) (by decide)) (by decide) [0, 1] rfl ?_
            refine g_goto h (tgt := 6) dX3_findFault_55 (by decide) ?_
            refine g_sub (lv' := [(0, .ref (th ω 9 0)), (1, .int (b1 + 1))]) [1, 0] rfl ?_
            exact ih _ _
set_option maxHeartbeats 4000000 in
set_option maxRecDepth 100000 in
theorem c_X3_findFault (l : Launch) (ω : Wd)  (M0 : Mm) (T : Tm) {r : Int32} {T' : Tm} (hm : m_X3_findFault T = some (r, T')) : MI l yX3_findFault wsX3_findFault ⟨4, 0, 0, 83⟩ ω LC [.ref (th ω 9 0)] (uM M0 9 T) r (uM M0 9 T') := by
  refine met_i (cc := cX3_findFault) (maxL := 2) (ty := .int) (by decide +kernel) rfl (Nat.le_of_ble_eq_true rfl) LC_nd ?_
  intro Γ h hR ht
  suffices K : Gq Γ ω LC (uM M0 9) 0 [(0, .ref (th ω 9 0))] [] T (m_X3_findFault T) from K (r, T') hm ht
  unfold m_X3_findFault
  refine g_aload_n h 0 dX3_findFault_0 rfl rfl ?_
  refine g_callV h (As := []) (fun t => t) (fun r t hG => c_X3_rewind l ω M0 _ hG) iC_9_0 (C := RX3) (T := TX3) (N := 7) rfl 0 rfl gX3_findFault_X3_rewind rfl rfl rfl (by decide +kernel) (by decide) (st0 := _) rfl (Nat.le_of_ble_eq_true rfl) dX3_findFault_1 (fun r1 T2 => ?_)
  refine g_iconst h 0 dX3_findFault_4 (by decide) ?_
  refine g_istore_n h rfl (lv' := [(1, .int 0), (0, .ref (th ω 9 0))]) dX3_findFault_5 (by decide) [0, 1] rfl ?_
  refine g_sub (lv' := [(0, .ref (th ω 9 0)), (1, .int 0)]) [1, 0] rfl ?_
  exact b_X3_findFault_6 h hR fu _ _
theorem n_X4_addConker_4 : ∀ w ∈ wsX40, w ∈ wsX4_addConker := by decide +kernel
set_option maxHeartbeats 4000000 in
set_option maxRecDepth 100000 in
theorem c_X4_addConker (l : Launch) (ω : Wd) (k : Nat) (hk : kS k) (M0 : Mm) (T : Tm) (a1 : Int32) (a2 : Int32) {r : Int32} {T' : Tm} (hm : m_X4_addConker a1 a2 T = some (r, T')) : MI l yX4_addConker wsX4_addConker ⟨0, 0, 0, 0⟩ ω LC [.ref (th ω k 0), .int a1, .int a2] (uM M0 k T) r (uM M0 k T') := by
  refine met_i (cc := cX4_addConker) (maxL := 4) (ty := .int) (by decide +kernel) rfl (Nat.le_of_ble_eq_true rfl) LC_nd ?_
  intro Γ h hR ht
  suffices K : Gq Γ ω LC (uM M0 k) 0 [(0, .ref (th ω k 0)), (1, .int a1), (2, .int a2)] [] T (m_X4_addConker a1 a2 T) from K (r, T') hm ht
  unfold m_X4_addConker
  refine g_aload_n h 0 dX4_addConker_0 rfl rfl ?_
  refine g_getI h (v := T 0 10) (uMr M0 k _ _ _) (index := 42) (j := 10) (inS hk 0 (by decide)) (C := RX4) (T := TX4) (N := 13) rfl n_X4_addConker_4 (by decide) rfl (by decide +kernel) dX4_addConker_1 ?_
  refine g_ni (fun v1 => ?_)
  refine g_istore_n h rfl (lv' := [(3, .int v1), (0, .ref (th ω k 0)), (1, .int a1), (2, .int a2)]) dX4_addConker_4 (by decide) [0, 1, 2, 3] rfl ?_
  refine g_aload_n h 1 dX4_addConker_5 rfl rfl ?_
  refine g_getR h (index := 9) (j := 0) (inS hk 0 (by decide)) (C := RX4) (T := TX4) (N := 13) rfl n_X4_addConker_4 (by decide) rfl (by decide +kernel) dX4_addConker_6 ?_
  refine g_iload_n h 2 dX4_addConker_9 rfl rfl ?_
  refine g_dup2 h dX4_addConker_10 rfl rfl ?_
  refine g_iald h (v := T 1 a1.toNatClampNeg) (uMr M0 k _ _ _) (inS hk 1 (by decide)) dX4_addConker_11 ?_
  refine g_ni (fun v2 => ?_)
  refine g_iconst h 1 dX4_addConker_12 (by decide) ?_
  refine g_isub h dX4_addConker_13 ?_
  refine g_iast h (x' := wT T 1 a1.toNatClampNeg (v2 - 1)) (wM_uM M0 k _ _ _ _).symm (inS hk 1 (by decide)) dX4_addConker_14 ?_
  refine g_nm (fun T3 => ?_)
  refine g_aload_n h 1 dX4_addConker_15 rfl rfl ?_
  refine g_getR h (index := 18) (j := 2) (inS hk 0 (by decide)) (C := RX4) (T := TX4) (N := 13) rfl n_X4_addConker_4 (by decide) rfl (by decide +kernel) dX4_addConker_16 ?_
  refine g_iload_n h 0 dX4_addConker_19 rfl rfl ?_
  refine g_iload_n h 2 dX4_addConker_20 rfl rfl ?_
  refine g_iast h (x' := wT T3 3 v1.toNatClampNeg a1) (wM_uM M0 k _ _ _ _).symm (inS hk 3 (by decide)) dX4_addConker_21 ?_
  refine g_nm (fun T4 => ?_)
  refine g_aload_n h 1 dX4_addConker_22 rfl rfl ?_
  refine g_getR h (index := 21) (j := 3) (inS hk 0 (by decide)) (C := RX4) (T := TX4) (N := 13) rfl n_X4_addConker_4 (by decide) rfl (by decide +kernel) dX4_addConker_23 ?_
  refine g_iload_n h 0 dX4_addConker_26 rfl rfl ?_
  refine g_iload_n h 3 dX4_addConker_27 rfl rfl ?_
  refine g_iast h (x' := wT T4 4 v1.toNatClampNeg a2) (wM_uM M0 k _ _ _ _).symm (inS hk 4 (by decide)) dX4_addConker_28 ?_
  refine g_nm (fun T5 => ?_)
  refine g_aload_n h 1 dX4_addConker_29 rfl rfl ?_
  refine g_getR h (index := 24) (j := 4) (inS hk 0 (by decide)) (C := RX4) (T := TX4) (N := 13) rfl n_X4_addConker_4 (by decide) rfl (by decide +kernel) dX4_addConker_30 ?_
  refine g_iload_n h 0 dX4_addConker_33 rfl rfl ?_
  refine g_iconst h 0 dX4_addConker_34 (by decide) ?_
  refine g_iast h (x' := wT T5 5 v1.toNatClampNeg 0) (wM_uM M0 k _ _ _ _).symm (inS hk 5 (by decide)) dX4_addConker_35 ?_
  refine g_nm (fun T6 => ?_)
  refine g_aload_n h 1 dX4_addConker_36 rfl rfl ?_
  refine g_getR h (index := 27) (j := 5) (inS hk 0 (by decide)) (C := RX4) (T := TX4) (N := 13) rfl n_X4_addConker_4 (by decide) rfl (by decide +kernel) dX4_addConker_37 ?_
  refine g_iload_n h 0 dX4_addConker_40 rfl rfl ?_
  refine g_iconst h 0 dX4_addConker_41 (by decide) ?_
  refine g_iast h (x' := wT T6 6 v1.toNatClampNeg 0) (wM_uM M0 k _ _ _ _).symm (inS hk 6 (by decide)) dX4_addConker_42 ?_
  refine g_nm (fun T7 => ?_)
  refine g_aload_n h 1 dX4_addConker_43 rfl rfl ?_
  refine g_getR h (index := 30) (j := 6) (inS hk 0 (by decide)) (C := RX4) (T := TX4) (N := 13) rfl n_X4_addConker_4 (by decide) rfl (by decide +kernel) dX4_addConker_44 ?_
  refine g_iload_n h 0 dX4_addConker_47 rfl rfl ?_
  refine g_iconst h 0 dX4_addConker_48 (by decide) ?_
  refine g_iast h (x' := wT T7 7 v1.toNatClampNeg 0) (wM_uM M0 k _ _ _ _).symm (inS hk 7 (by decide)) dX4_addConker_49 ?_
  refine g_nm (fun T8 => ?_)
  refine g_aload_n h 1 dX4_addConker_50 rfl rfl ?_
  refine g_getR h (index := 33) (j := 7) (inS hk 0 (by decide)) (C := RX4) (T := TX4) (N := 13) rfl n_X4_addConker_4 (by decide) rfl (by decide +kernel) dX4_addConker_51 ?_
  refine g_iload_n h 0 dX4_addConker_54 rfl rfl ?_
  refine g_bipush h (-5) dX4_addConker_55 (by decide) ?_
  refine g_iast h (x' := wT T8 8 v1.toNatClampNeg (-5)) (wM_uM M0 k _ _ _ _).symm (inS hk 8 (by decide)) dX4_addConker_57 ?_
  refine g_nm (fun T9 => ?_)
  refine g_aload_n h 1 dX4_addConker_58 rfl rfl ?_
  refine g_getR h (index := 36) (j := 8) (inS hk 0 (by decide)) (C := RX4) (T := TX4) (N := 13) rfl n_X4_addConker_4 (by decide) rfl (by decide +kernel) dX4_addConker_59 ?_
  refine g_iload_n h 0 dX4_addConker_62 rfl rfl ?_
  refine g_iconst h 0 dX4_addConker_63 (by decide) ?_
  refine g_iast h (x' := wT T9 9 v1.toNatClampNeg 0) (wM_uM M0 k _ _ _ _).symm (inS hk 9 (by decide)) dX4_addConker_64 ?_
  refine g_nm (fun T10 => ?_)
  refine g_aload_n h 1 dX4_addConker_65 rfl rfl ?_
  refine g_getR h (index := 39) (j := 9) (inS hk 0 (by decide)) (C := RX4) (T := TX4) (N := 13) rfl n_X4_addConker_4 (by decide) rfl (by decide +kernel) dX4_addConker_66 ?_
  refine g_iload_n h 0 dX4_addConker_69 rfl rfl ?_
  refine g_bipush h (-5) dX4_addConker_70 (by decide) ?_
  refine g_iast h (x' := wT T10 10 v1.toNatClampNeg (-5)) (wM_uM M0 k _ _ _ _).symm (inS hk 10 (by decide)) dX4_addConker_72 ?_
  refine g_nm (fun T11 => ?_)
  refine g_aload_n h 1 dX4_addConker_73 rfl rfl ?_
  refine g_dup h dX4_addConker_74 rfl ?_
  refine g_getI h (v := T11 0 10) (uMr M0 k _ _ _) (index := 42) (j := 10) (inS hk 0 (by decide)) (C := RX4) (T := TX4) (N := 13) rfl n_X4_addConker_4 (by decide) rfl (by decide +kernel) dX4_addConker_75 ?_
  refine g_ni (fun v12 => ?_)
  refine g_iconst h 1 dX4_addConker_78 (by decide) ?_
  refine g_iadd h dX4_addConker_79 ?_
  refine g_putI h (x' := wT T11 0 10 (v12 + 1)) (wM_uM M0 k _ _ _ _).symm (index := 42) (j := 10) (inS hk 0 (by decide)) (C := RX4) (T := TX4) (N := 13) rfl n_X4_addConker_4 tyX4_ok nmX4 (by decide) rfl (by decide +kernel) rfl (ty := .int) (by decide +kernel) rfl rfl dX4_addConker_80 ?_
  refine g_nm (fun T13 => ?_)
  refine g_iload_n h 0 dX4_addConker_83 rfl rfl ?_
  exact g_iret hR rfl dX4_addConker_84
theorem n_X4_areInPlay_4 : ∀ w ∈ wsX40, w ∈ wsX4_areInPlay := by decide +kernel
set_option maxHeartbeats 4000000 in
set_option maxRecDepth 100000 in
theorem c_X4_areInPlay (l : Launch) (ω : Wd) (k : Nat) (hk : kS k) (M0 : Mm) (T : Tm) (a1 : Int32) (a2 : Int32) {r : Int32} {T' : Tm} (hm : m_X4_areInPlay a1 a2 T = some (r, T')) : MI l yX4_areInPlay wsX4_areInPlay ⟨0, 0, 0, 0⟩ ω LC [.ref (th ω k 0), .int a1, .int a2] (uM M0 k T) r (uM M0 k T') := by
  refine met_i (cc := cX4_areInPlay) (maxL := 3) (ty := .boolean) (by decide +kernel) rfl (Nat.le_of_ble_eq_true rfl) LC_nd ?_
  intro Γ h hR ht
  suffices K : Gq Γ ω LC (uM M0 k) 0 [(0, .ref (th ω k 0)), (1, .int a1), (2, .int a2)] [] T (m_X4_areInPlay a1 a2 T) from K (r, T') hm ht
  unfold m_X4_areInPlay
  refine g_aload_n h 0 dX4_areInPlay_0 rfl rfl ?_
  refine g_getR h (index := 36) (j := 8) (inS hk 0 (by decide)) (C := RX4) (T := TX4) (N := 13) rfl n_X4_areInPlay_4 (by decide) rfl (by decide +kernel) dX4_areInPlay_1 ?_
  refine g_iload_n h 1 dX4_areInPlay_4 rfl rfl ?_
  refine g_iald h (v := T 9 a1.toNatClampNeg) (uMr M0 k _ _ _) (inS hk 9 (by decide)) dX4_areInPlay_5 ?_
  refine g_ni (fun v1 => ?_)
  refine g_if_ne h 22 dX4_areInPlay_6 (by decide) (fun hc2 => ?_) (fun hc2 => ?_)
  · skip
    refine g_aload_n h 0 dX4_areInPlay_9 rfl rfl ?_
    refine g_getR h (index := 36) (j := 8) (inS hk 0 (by decide)) (C := RX4) (T := TX4) (N := 13) rfl n_X4_areInPlay_4 (by decide) rfl (by decide +kernel) dX4_areInPlay_10 ?_
    refine g_iload_n h 2 dX4_areInPlay_13 rfl rfl ?_
    refine g_iald h (v := T 9 a2.toNatClampNeg) (uMr M0 k _ _ _) (inS hk 9 (by decide)) dX4_areInPlay_14 ?_
    refine g_ni (fun v3 => ?_)
    refine g_if_ne h 22 dX4_areInPlay_15 (by decide) (fun hc4 => ?_) (fun hc4 => ?_)
    · skip
      refine g_iconst h 1 dX4_areInPlay_18 (by decide) ?_
      refine g_goto h (tgt := 23) dX4_areInPlay_19 (by decide) ?_
      exact g_iret hR (by decide) dX4_areInPlay_23
    · skip
      refine g_iconst h 0 dX4_areInPlay_22 (by decide) ?_
      exact g_iret hR (by decide) dX4_areInPlay_23
  · skip
    refine g_iconst h 0 dX4_areInPlay_22 (by decide) ?_
    exact g_iret hR (by decide) dX4_areInPlay_23
theorem n_X4_boastsTold_4 : ∀ w ∈ wsX40, w ∈ wsX4_boastsTold := by decide +kernel
set_option maxHeartbeats 4000000 in
set_option maxRecDepth 100000 in
theorem b_X4_boastsTold_26 {Γ : Cx} {l : Launch} {ω : Wd} {M0 : Mm} {k : Nat} (hk : kS k) (h : CxOk Γ l ⟨0, 0, 0, 0⟩ 3 ω LC cX4_boastsTold yX4_boastsTold.cls wsX4_boastsTold) (hR : RetI Γ ω LC cX4_boastsTold .int) (κ4 : Int32 → Int32 → Tm → Option (Int32 × Tm)) (hκ4 : ∀ (b1 : Int32) (b2 : Int32) (T : Tm), Gq Γ ω LC (uM M0 k) 4 [(0, .ref (th ω k 0)), (1, .int b1), (2, .int b2)] [] T (κ4 b1 b2 T)) : ∀ (b1 : Int32) (b2 : Int32) (T : Tm), Gq Γ ω LC (uM M0 k) 26 [(0, .ref (th ω k 0)), (1, .int b1), (2, .int b2)] [] T (m_X4_boastsTold_26 κ4 b1 b2 T) := by
  intro b1 b2 T
  unfold m_X4_boastsTold_26
  refine g_iinc h (b2 + 1) (lv' := [(2, .int (b2 + 1)), (0, .ref (th ω k 0)), (1, .int b1)]) dX4_boastsTold_26 2 rfl (congrArg (fun z => b2 + z) (by decide)) (by decide) [0, 1, 2] rfl ?_
  refine g_goto h (tgt := 4) dX4_boastsTold_29 (by decide) ?_
  refine g_sub (lv' := [(0, .ref (th ω k 0)), (1, .int b1), (2, .int (b2 + 1))]) [1, 2, 0] rfl ?_
  exact hκ4 _ _ _
set_option maxHeartbeats 4000000 in
set_option maxRecDepth 100000 in
theorem b_X4_boastsTold_4 {Γ : Cx} {l : Launch} {ω : Wd} {M0 : Mm} {k : Nat} (hk : kS k) (h : CxOk Γ l ⟨0, 0, 0, 0⟩ 3 ω LC cX4_boastsTold yX4_boastsTold.cls wsX4_boastsTold) (hR : RetI Γ ω LC cX4_boastsTold .int) : ∀ (n : Nat) (b1 : Int32) (b2 : Int32) (T : Tm), Gq Γ ω LC (uM M0 k) 4 [(0, .ref (th ω k 0)), (1, .int b1), (2, .int b2)] [] T (m_X4_boastsTold_4 n b1 b2 T) := by
  intro n
  induction n with
  | zero =>
    intro b1 b2 T
    rw [m_X4_boastsTold_4.eq_1]
    exact g_none
  | succ n ih =>
    intro b1 b2 T
    rw [m_X4_boastsTold_4.eq_2]
    refine g_iload_n h 2 dX4_boastsTold_4 rfl rfl ?_
    refine g_aload_n h 0 dX4_boastsTold_5 rfl rfl ?_
    refine g_getI h (v := T 0 10) (uMr M0 k _ _ _) (index := 42) (j := 10) (inS hk 0 (by decide)) (C := RX4) (T := TX4) (N := 13) rfl n_X4_boastsTold_4 (by decide) rfl (by decide +kernel) dX4_boastsTold_6 ?_
    refine g_ni (fun v1 => ?_)
    refine g_icmp_ge h 32 dX4_boastsTold_9 (by decide) (fun hc2 => ?_) (fun hc2 => ?_)
    · skip
      refine g_iload_n h 1 dX4_boastsTold_32 rfl rfl ?_
      exact g_iret hR rfl dX4_boastsTold_33
    · skip
      refine g_aload_n h 0 dX4_boastsTold_12 rfl rfl ?_
      refine g_getR h (index := 33) (j := 7) (inS hk 0 (by decide)) (C := RX4) (T := TX4) (N := 13) rfl n_X4_boastsTold_4 (by decide) rfl (by decide +kernel) dX4_boastsTold_13 ?_
      refine g_iload_n h 2 dX4_boastsTold_16 rfl rfl ?_
      refine g_iald h (v := T 8 b2.toNatClampNeg) (uMr M0 k _ _ _) (inS hk 8 (by decide)) dX4_boastsTold_17 ?_
      refine g_ni (fun v3 => ?_)
      refine g_bipush h (-5) dX4_boastsTold_18 (by decide) ?_
      refine g_icmp_eq h 26 dX4_boastsTold_20 (by decide) (fun hc4 => ?_) (fun hc4 => ?_)
      · skip
        exact b_X4_boastsTold_26 hk h hR _ ih _ _ _
      · skip
        refine g_iinc h (b1 + 1) (lv' := [(1, .int (b1 + 1)), (0, .ref (th ω k 0)), (2, .int b2)]) dX4_boastsTold_23 1 rfl (congrArg (fun z => b1 + z) (by decide)) (by decide) [0, 1, 2] rfl ?_
        refine g_sub (lv' := [(0, .ref (th ω k 0)), (1, .int (b1 + 1)), (2, .int b2)]) [1, 0, 2] rfl ?_
        exact b_X4_boastsTold_26 hk h hR _ ih _ _ _
set_option maxHeartbeats 4000000 in
set_option maxRecDepth 100000 in
theorem c_X4_boastsTold (l : Launch) (ω : Wd) (k : Nat) (hk : kS k) (M0 : Mm) (T : Tm) {r : Int32} {T' : Tm} (hm : m_X4_boastsTold T = some (r, T')) : MI l yX4_boastsTold wsX4_boastsTold ⟨0, 0, 0, 0⟩ ω LC [.ref (th ω k 0)] (uM M0 k T) r (uM M0 k T') := by
  refine met_i (cc := cX4_boastsTold) (maxL := 3) (ty := .int) (by decide +kernel) rfl (Nat.le_of_ble_eq_true rfl) LC_nd ?_
  intro Γ h hR ht
  suffices K : Gq Γ ω LC (uM M0 k) 0 [(0, .ref (th ω k 0))] [] T (m_X4_boastsTold T) from K (r, T') hm ht
  unfold m_X4_boastsTold
  refine g_iconst h 0 dX4_boastsTold_0 (by decide) ?_
  refine g_istore_n h rfl (lv' := [(1, .int 0), (0, .ref (th ω k 0))]) dX4_boastsTold_1 (by decide) [0, 1] rfl ?_
  refine g_iconst h 0 dX4_boastsTold_2 (by decide) ?_
  refine g_istore_n h rfl (lv' := [(2, .int 0), (1, .int 0), (0, .ref (th ω k 0))]) dX4_boastsTold_3 (by decide) [0, 1, 2] rfl ?_
  refine g_sub (lv' := [(0, .ref (th ω k 0)), (1, .int 0), (2, .int 0)]) [2, 1, 0] rfl ?_
  exact b_X4_boastsTold_4 hk h hR fu _ _ _
theorem n_X4_boastsTooHigh_4 : ∀ w ∈ wsX40, w ∈ wsX4_boastsTooHigh := by decide +kernel
set_option maxHeartbeats 4000000 in
set_option maxRecDepth 100000 in
theorem b_X4_boastsTooHigh_30 {Γ : Cx} {l : Launch} {ω : Wd} {M0 : Mm} {k : Nat} (hk : kS k) (h : CxOk Γ l ⟨0, 0, 0, 0⟩ 3 ω LC cX4_boastsTooHigh yX4_boastsTooHigh.cls wsX4_boastsTooHigh) (hR : RetI Γ ω LC cX4_boastsTooHigh .int) (κ4 : Int32 → Int32 → Tm → Option (Int32 × Tm)) (hκ4 : ∀ (b1 : Int32) (b2 : Int32) (T : Tm), Gq Γ ω LC (uM M0 k) 4 [(0, .ref (th ω k 0)), (1, .int b1), (2, .int b2)] [] T (κ4 b1 b2 T)) : ∀ (b1 : Int32) (b2 : Int32) (T : Tm), Gq Γ ω LC (uM M0 k) 30 [(0, .ref (th ω k 0)), (1, .int b1), (2, .int b2)] [] T (m_X4_boastsTooHigh_30 κ4 b1 b2 T) := by
  intro b1 b2 T
  unfold m_X4_boastsTooHigh_30
  refine g_iinc h (b2 + 1) (lv' := [(2, .int (b2 + 1)), (0, .ref (th ω k 0)), (1, .int b1)]) dX4_boastsTooHigh_30 2 rfl (congrArg (fun z => b2 + z) (by decide)) (by decide) [0, 1, 2] rfl ?_
  refine g_goto h (tgt := 4) dX4_boastsTooHigh_33 (by decide) ?_
  refine g_sub (lv' := [(0, .ref (th ω k 0)), (1, .int b1), (2, .int (b2 + 1))]) [1, 2, 0] rfl ?_
  exact hκ4 _ _ _
set_option maxHeartbeats 4000000 in
set_option maxRecDepth 100000 in
theorem b_X4_boastsTooHigh_4 {Γ : Cx} {l : Launch} {ω : Wd} {M0 : Mm} {k : Nat} (hk : kS k) (h : CxOk Γ l ⟨0, 0, 0, 0⟩ 3 ω LC cX4_boastsTooHigh yX4_boastsTooHigh.cls wsX4_boastsTooHigh) (hR : RetI Γ ω LC cX4_boastsTooHigh .int) : ∀ (n : Nat) (b1 : Int32) (b2 : Int32) (T : Tm), Gq Γ ω LC (uM M0 k) 4 [(0, .ref (th ω k 0)), (1, .int b1), (2, .int b2)] [] T (m_X4_boastsTooHigh_4 n b1 b2 T) := by
  intro n
  induction n with
  | zero =>
    intro b1 b2 T
    rw [m_X4_boastsTooHigh_4.eq_1]
    exact g_none
  | succ n ih =>
    intro b1 b2 T
    rw [m_X4_boastsTooHigh_4.eq_2]
    refine g_iload_n h 2 dX4_boastsTooHigh_4 rfl rfl ?_
    refine g_aload_n h 0 dX4_boastsTooHigh_5 rfl rfl ?_
    refine g_getI h (v := T 0 10) (uMr M0 k _ _ _) (index := 42) (j := 10) (inS hk 0 (by decide)) (C := RX4) (T := TX4) (N := 13) rfl n_X4_boastsTooHigh_4 (by decide) rfl (by decide +kernel) dX4_boastsTooHigh_6 ?_
    refine g_ni (fun v1 => ?_)
    refine g_icmp_ge h 36 dX4_boastsTooHigh_9 (by decide) (fun hc2 => ?_) (fun hc2 => ?_)
    · skip
      refine g_iload_n h 1 dX4_boastsTooHigh_36 rfl rfl ?_
      exact g_iret hR rfl dX4_boastsTooHigh_37
    · skip
      refine g_aload_n h 0 dX4_boastsTooHigh_12 rfl rfl ?_
      refine g_getR h (index := 33) (j := 7) (inS hk 0 (by decide)) (C := RX4) (T := TX4) (N := 13) rfl n_X4_boastsTooHigh_4 (by decide) rfl (by decide +kernel) dX4_boastsTooHigh_13 ?_
      refine g_iload_n h 2 dX4_boastsTooHigh_16 rfl rfl ?_
      refine g_iald h (v := T 8 b2.toNatClampNeg) (uMr M0 k _ _ _) (inS hk 8 (by decide)) dX4_boastsTooHigh_17 ?_
      refine g_ni (fun v3 => ?_)
      refine g_aload_n h 0 dX4_boastsTooHigh_18 rfl rfl ?_
      refine g_getR h (index := 30) (j := 6) (inS hk 0 (by decide)) (C := RX4) (T := TX4) (N := 13) rfl n_X4_boastsTooHigh_4 (by decide) rfl (by decide +kernel) dX4_boastsTooHigh_19 ?_
      refine g_iload_n h 2 dX4_boastsTooHigh_22 rfl rfl ?_
      refine g_iald h (v := T 7 b2.toNatClampNeg) (uMr M0 k _ _ _) (inS hk 7 (by decide)) dX4_boastsTooHigh_23 ?_
      refine g_ni (fun v4 => ?_)
      refine g_icmp_le h 30 dX4_boastsTooHigh_24 (by decide) (fun hc5 => ?_) (fun hc5 => ?_)
      · skip
        exact b_X4_boastsTooHigh_30 hk h hR _ ih _ _ _
      · skip
        refine g_iinc h (b1 + 1) (lv' := [(1, .int (b1 + 1)), (0, .ref (th ω k 0)), (2, .int b2)]) dX4_boastsTooHigh_27 1 rfl (congrArg (fun z => b1 + z) (by decide)) (by decide) [0, 1, 2] rfl ?_
        refine g_sub (lv' := [(0, .ref (th ω k 0)), (1, .int (b1 + 1)), (2, .int b2)]) [1, 0, 2] rfl ?_
        exact b_X4_boastsTooHigh_30 hk h hR _ ih _ _ _
set_option maxHeartbeats 4000000 in
set_option maxRecDepth 100000 in
theorem c_X4_boastsTooHigh (l : Launch) (ω : Wd) (k : Nat) (hk : kS k) (M0 : Mm) (T : Tm) {r : Int32} {T' : Tm} (hm : m_X4_boastsTooHigh T = some (r, T')) : MI l yX4_boastsTooHigh wsX4_boastsTooHigh ⟨0, 0, 0, 0⟩ ω LC [.ref (th ω k 0)] (uM M0 k T) r (uM M0 k T') := by
  refine met_i (cc := cX4_boastsTooHigh) (maxL := 3) (ty := .int) (by decide +kernel) rfl (Nat.le_of_ble_eq_true rfl) LC_nd ?_
  intro Γ h hR ht
  suffices K : Gq Γ ω LC (uM M0 k) 0 [(0, .ref (th ω k 0))] [] T (m_X4_boastsTooHigh T) from K (r, T') hm ht
  unfold m_X4_boastsTooHigh
  refine g_iconst h 0 dX4_boastsTooHigh_0 (by decide) ?_
  refine g_istore_n h rfl (lv' := [(1, .int 0), (0, .ref (th ω k 0))]) dX4_boastsTooHigh_1 (by decide) [0, 1] rfl ?_
  refine g_iconst h 0 dX4_boastsTooHigh_2 (by decide) ?_
  refine g_istore_n h rfl (lv' := [(2, .int 0), (1, .int 0), (0, .ref (th ω k 0))]) dX4_boastsTooHigh_3 (by decide) [0, 1, 2] rfl ?_
  refine g_sub (lv' := [(0, .ref (th ω k 0)), (1, .int 0), (2, .int 0)]) [2, 1, 0] rfl ?_
  exact b_X4_boastsTooHigh_4 hk h hR fu _ _ _
set_option maxHeartbeats 4000000 in
set_option maxRecDepth 100000 in
theorem c_X5_isWithin (l : Launch) (ω : Wd)  (M : Mm) (a0 : Int32) (a1 : Int32) (a2 : Int32) {r : Int32} {M' : Mm} (hm : m_X5_isWithin a0 a1 a2 M = some (r, M')) : MI l yX5_isWithin wsX5_isWithin ⟨0, 0, 0, 0⟩ ω L00 [.int a0, .int a1, .int a2] M r M' := by
  refine met_i (cc := cX5_isWithin) (maxL := 3) (ty := .boolean) (by decide +kernel) rfl (Nat.le_of_ble_eq_true rfl) L00_nd ?_
  intro Γ h hR ht
  suffices K : Gq Γ ω L00 eI 0 [(0, .int a0), (1, .int a1), (2, .int a2)] [] M (m_X5_isWithin a0 a1 a2 M) from K (r, M') hm ht
  unfold m_X5_isWithin
  refine g_iload_n h 0 dX5_isWithin_0 rfl rfl ?_
  refine g_iload_n h 1 dX5_isWithin_1 rfl rfl ?_
  refine g_icmp_lt h 14 dX5_isWithin_2 (by decide) (fun hc1 => ?_) (fun hc1 => ?_)
  · skip
    refine g_iconst h 0 dX5_isWithin_14 (by decide) ?_
    exact g_iret hR (by decide) dX5_isWithin_15
  · skip
    refine g_iload_n h 0 dX5_isWithin_5 rfl rfl ?_
    refine g_iload_n h 2 dX5_isWithin_6 rfl rfl ?_
    refine g_icmp_gt h 14 dX5_isWithin_7 (by decide) (fun hc2 => ?_) (fun hc2 => ?_)
    · skip
      refine g_iconst h 0 dX5_isWithin_14 (by decide) ?_
      exact g_iret hR (by decide) dX5_isWithin_15
    · skip
      refine g_iconst h 1 dX5_isWithin_10 (by decide) ?_
      refine g_goto h (tgt := 15) dX5_isWithin_11 (by decide) ?_
      exact g_iret hR (by decide) dX5_isWithin_15
theorem n_X4_hasConker_4 : ∀ w ∈ wsX40, w ∈ wsX4_hasConker := by decide +kernel
set_option maxHeartbeats 4000000 in
set_option maxRecDepth 100000 in
theorem c_X4_hasConker (l : Launch) (ω : Wd) (k : Nat) (hk : kS k) (M0 : Mm) (T : Tm) (a1 : Int32) {r : Int32} {T' : Tm} (hm : m_X4_hasConker a1 T = some (r, T')) : MI l yX4_hasConker wsX4_hasConker ⟨1, 0, 0, 22⟩ ω LC [.ref (th ω k 0), .int a1] (uM M0 k T) r (uM M0 k T') := by
  refine met_i (cc := cX4_hasConker) (maxL := 2) (ty := .boolean) (by decide +kernel) rfl (Nat.le_of_ble_eq_true rfl) LC_nd ?_
  intro Γ h hR ht
  suffices K : Gq Γ ω LC (uM M0 k) 0 [(0, .ref (th ω k 0)), (1, .int a1)] [] T (m_X4_hasConker a1 T) from K (r, T') hm ht
  unfold m_X4_hasConker
  refine g_iload_n h 1 dX4_hasConker_0 rfl rfl ?_
  refine g_iconst h 0 dX4_hasConker_1 (by decide) ?_
  refine g_aload_n h 0 dX4_hasConker_2 rfl rfl ?_
  refine g_getI h (v := T 0 10) (uMr M0 k _ _ _) (index := 42) (j := 10) (inS hk 0 (by decide)) (C := RX4) (T := TX4) (N := 13) rfl n_X4_hasConker_4 (by decide) rfl (by decide +kernel) dX4_hasConker_3 ?_
  refine g_ni (fun v1 => ?_)
  refine g_iconst h 1 dX4_hasConker_6 (by decide) ?_
  refine g_isub h dX4_hasConker_7 ?_
  refine g_callPN h (As := [.int a1, .int 0, .int (v1 - 1)]) (fun r t hG => c_X5_isWithin l ω M00 a1 0 (v1 - 1) hG) 3 rfl gX4_hasConker_X5_isWithin_n58 rfl (by decide +kernel) (by decide +kernel) (fun _ hz => hz) rfl rfl (by decide +kernel) (by decide) (st0 := _) rfl (Nat.le_of_ble_eq_true rfl) dX4_hasConker_8 (fun r2 => ?_)
  exact g_nret hR (fun _ => rfl) dX4_hasConker_11
theorem n_X4_pairError_4 : ∀ w ∈ wsX40, w ∈ wsX4_pairError := by decide +kernel
set_option maxHeartbeats 4000000 in
set_option maxRecDepth 100000 in
theorem b_X4_pairError_49 {Γ : Cx} {l : Launch} {ω : Wd} {M0 : Mm} {k : Nat} (hk : kS k) (h : CxOk Γ l ⟨2, 0, 0, 43⟩ 4 ω LC cX4_pairError yX4_pairError.cls wsX4_pairError) (hR : RetI Γ ω LC cX4_pairError .int) : ∀ (T : Tm), Gq Γ ω LC (uM M0 k) 49 [] [] T (m_X4_pairError_49 T) := by
  intro T
  unfold m_X4_pairError_49
  refine g_bipush h (-4) dX4_pairError_49 (by decide) ?_
  refine g_goto h (tgt := 55) dX4_pairError_51 (by decide) ?_
  exact g_iret hR rfl dX4_pairError_55
set_option maxHeartbeats 4000000 in
set_option maxRecDepth 100000 in
theorem c_X4_pairError (l : Launch) (ω : Wd) (k : Nat) (hk : kS k) (M0 : Mm) (T : Tm) (a1 : Int32) (a2 : Int32) (a3 : Int32) {r : Int32} {T' : Tm} (hm : m_X4_pairError a1 a2 a3 T = some (r, T')) : MI l yX4_pairError wsX4_pairError ⟨2, 0, 0, 43⟩ ω LC [.ref (th ω k 0), .int a1, .int a2, .int a3] (uM M0 k T) r (uM M0 k T') := by
  refine met_i (cc := cX4_pairError) (maxL := 4) (ty := .int) (by decide +kernel) rfl (Nat.le_of_ble_eq_true rfl) LC_nd ?_
  intro Γ h hR ht
  suffices K : Gq Γ ω LC (uM M0 k) 0 [(0, .ref (th ω k 0)), (1, .int a1), (2, .int a2), (3, .int a3)] [] T (m_X4_pairError a1 a2 a3 T) from K (r, T') hm ht
  unfold m_X4_pairError
  refine g_aload_n h 0 dX4_pairError_0 rfl rfl ?_
  refine g_iload_n h 1 dX4_pairError_1 rfl rfl ?_
  refine g_callI h (As := [.int a1]) (fun t => t) (fun r t hG => c_X4_hasConker l ω k hk M0 _ a1 hG) (inS hk 0 (by decide)) (C := RX4) (T := TX4) (N := 13) rfl 1 rfl gX4_pairError_X4_hasConker rfl rfl rfl (by decide +kernel) (by decide) (st0 := _) rfl (Nat.le_of_ble_eq_true rfl) dX4_pairError_2 (fun r1 T2 => ?_)
  refine g_if_eq h 16 dX4_pairError_5 (by decide) (fun hc3 => ?_) (fun hc3 => ?_)
  · skip
    refine g_iconst h (-1) dX4_pairError_16 (by decide) ?_
    exact g_iret hR rfl dX4_pairError_17
  · skip
    refine g_aload_n h 0 dX4_pairError_8 rfl rfl ?_
    refine g_iload_n h 2 dX4_pairError_9 rfl rfl ?_
    refine g_callI h (As := [.int a2]) (fun t => t) (fun r t hG => c_X4_hasConker l ω k hk M0 _ a2 hG) (inS hk 0 (by decide)) (C := RX4) (T := TX4) (N := 13) rfl 1 rfl gX4_pairError_X4_hasConker rfl rfl rfl (by decide +kernel) (by decide) (st0 := _) rfl (Nat.le_of_ble_eq_true rfl) dX4_pairError_10 (fun r4 T5 => ?_)
    refine g_if_ne h 18 dX4_pairError_13 (by decide) (fun hc6 => ?_) (fun hc6 => ?_)
    · skip
      refine g_iconst h (-1) dX4_pairError_16 (by decide) ?_
      exact g_iret hR rfl dX4_pairError_17
    · skip
      refine g_iload_n h 3 dX4_pairError_18 rfl rfl ?_
      refine g_if_ne h 25 dX4_pairError_19 (by decide) (fun hc7 => ?_) (fun hc7 => ?_)
      · skip
        refine g_bipush h (-2) dX4_pairError_22 (by decide) ?_
        exact g_iret hR rfl dX4_pairError_24
      · skip
        refine g_aload_n h 0 dX4_pairError_25 rfl rfl ?_
        refine g_getR h (index := 18) (j := 2) (inS hk 0 (by decide)) (C := RX4) (T := TX4) (N := 13) rfl n_X4_pairError_4 (by decide) rfl (by decide +kernel) dX4_pairError_26 ?_
        refine g_iload_n h 1 dX4_pairError_29 rfl rfl ?_
        refine g_iald h (v := T5 3 a1.toNatClampNeg) (uMr M0 k _ _ _) (inS hk 3 (by decide)) dX4_pairError_30 ?_
        refine g_ni (fun v8 => ?_)
        refine g_aload_n h 0 dX4_pairError_31 rfl rfl ?_
        refine g_getR h (index := 18) (j := 2) (inS hk 0 (by decide)) (C := RX4) (T := TX4) (N := 13) rfl n_X4_pairError_4 (by decide) rfl (by decide +kernel) dX4_pairError_32 ?_
        refine g_iload_n h 2 dX4_pairError_35 rfl rfl ?_
        refine g_iald h (v := T5 3 a2.toNatClampNeg) (uMr M0 k _ _ _) (inS hk 3 (by decide)) dX4_pairError_36 ?_
        refine g_ni (fun v9 => ?_)
        refine g_icmp_eq h 49 dX4_pairError_37 (by decide) (fun hc10 => ?_) (fun hc10 => ?_)
        · skip
          refine g_sub (lv' := []) [] rfl ?_
          exact b_X4_pairError_49 hk h hR _
        · skip
          refine g_aload_n h 0 dX4_pairError_40 rfl rfl ?_
          refine g_iload_n h 1 dX4_pairError_41 rfl rfl ?_
          refine g_iload_n h 2 dX4_pairError_42 rfl rfl ?_
          refine g_callI h (As := [.int a1, .int a2]) (fun t => t) (fun r t hG => c_X4_areInPlay l ω k hk M0 _ a1 a2 hG) (inS hk 0 (by decide)) (C := RX4) (T := TX4) (N := 13) rfl 2 rfl gX4_pairError_X4_areInPlay rfl rfl rfl (by decide +kernel) (by decide) (st0 := _) rfl (Nat.le_of_ble_eq_true rfl) dX4_pairError_43 (fun r11 T12 => ?_)
          refine g_if_ne h 54 dX4_pairError_46 (by decide) (fun hc13 => ?_) (fun hc13 => ?_)
          · skip
            refine g_sub (lv' := []) [] rfl ?_
            exact b_X4_pairError_49 hk h hR _
          · skip
            refine g_iconst h 0 dX4_pairError_54 (by decide) ?_
            exact g_iret hR rfl dX4_pairError_55
set_option maxHeartbeats 4000000 in
set_option maxRecDepth 100000 in
theorem c_X4_boutError (l : Launch) (ω : Wd) (k : Nat) (hk : kS k) (M0 : Mm) (T : Tm) (a1 : Int32) (a2 : Int32) (a3 : Int32) {r : Int32} {T' : Tm} (hm : m_X4_boutError a1 a2 a3 T = some (r, T')) : MI l yX4_boutError wsX4_boutError ⟨3, 0, 0, 66⟩ ω LC [.ref (th ω k 0), .int a1, .int a2, .int a3] (uM M0 k T) r (uM M0 k T') := by
  refine met_i (cc := cX4_boutError) (maxL := 4) (ty := .int) (by decide +kernel) rfl (Nat.le_of_ble_eq_true rfl) LC_nd ?_
  intro Γ h hR ht
  suffices K : Gq Γ ω LC (uM M0 k) 0 [(0, .ref (th ω k 0)), (1, .int a1), (2, .int a2), (3, .int a3)] [] T (m_X4_boutError a1 a2 a3 T) from K (r, T') hm ht
  unfold m_X4_boutError
  refine g_aload_n h 0 dX4_boutError_0 rfl rfl ?_
  refine g_iload_n h 1 dX4_boutError_1 rfl rfl ?_
  refine g_iload_n h 2 dX4_boutError_2 rfl rfl ?_
  refine g_iload_n h 3 dX4_boutError_3 rfl rfl ?_
  refine g_iconst h 0 dX4_boutError_4 (by decide) ?_
  refine g_ldc h 65535 dX4_boutError_5 (by decide +kernel) ?_
  refine g_callPN h (As := [.int a3, .int 0, .int 65535]) (fun r t hG => c_X5_isWithin l ω M00 a3 0 65535 hG) 3 rfl gX4_boutError_X5_isWithin_n58 rfl (by decide +kernel) (by decide +kernel) (fun _ hz => hz) rfl rfl (by decide +kernel) (by decide) (st0 := _) rfl (Nat.le_of_ble_eq_true rfl) dX4_boutError_7 (fun r1 => ?_)
  refine g_callI h (As := [.int a1, .int a2, .int r1]) (fun t => t) (fun r t hG => c_X4_pairError l ω k hk M0 _ a1 a2 r1 hG) (inS hk 0 (by decide)) (C := RX4) (T := TX4) (N := 13) rfl 3 rfl gX4_boutError_X4_pairError rfl rfl rfl (by decide +kernel) (by decide) (st0 := _) rfl (Nat.le_of_ble_eq_true rfl) dX4_boutError_10 (fun r2 T3 => ?_)
  exact g_iret hR rfl dX4_boutError_13
theorem n_X4_conkersAheadOf_4 : ∀ w ∈ wsX40, w ∈ wsX4_conkersAheadOf := by decide +kernel
set_option maxHeartbeats 4000000 in
set_option maxRecDepth 100000 in
theorem b_X4_conkersAheadOf_84 {Γ : Cx} {l : Launch} {ω : Wd} {M0 : Mm} {k : Nat} (hk : kS k) (h : CxOk Γ l ⟨0, 0, 0, 0⟩ 6 ω LC cX4_conkersAheadOf yX4_conkersAheadOf.cls wsX4_conkersAheadOf) (hR : RetI Γ ω LC cX4_conkersAheadOf .int) (κ4 : Int32 → Int32 → Int32 → Tm → Option (Int32 × Tm)) (hκ4 : ∀ (b1 : Int32) (b2 : Int32) (b3 : Int32) (T : Tm), Gq Γ ω LC (uM M0 k) 4 [(0, .ref (th ω k 0)), (1, .int b1), (2, .int b2), (3, .int b3)] [] T (κ4 b1 b2 b3 T)) : ∀ (b1 : Int32) (b2 : Int32) (b3 : Int32) (T : Tm), Gq Γ ω LC (uM M0 k) 84 [(0, .ref (th ω k 0)), (1, .int b1), (2, .int b2), (3, .int b3)] [] T (m_X4_conkersAheadOf_84 κ4 b1 b2 b3 T) := by
  intro b1 b2 b3 T
  unfold m_X4_conkersAheadOf_84
  refine g_iinc h (b3 + 1) (lv' := [(3, .int (b3 + 1)), (0, .ref (th ω k 0)), (1, .int b1), (2, .int b2)]) dX4_conkersAheadOf_84 3 rfl (congrArg (fun z => b3 + z) (by decide)) (by decide) [0, 1, 2, 3] rfl ?_
  refine g_goto h (tgt := 4) dX4_conkersAheadOf_87 (by decide) ?_
  refine g_sub (lv' := [(0, .ref (th ω k 0)), (1, .int b1), (2, .int b2), (3, .int (b3 + 1))]) [1, 2, 3, 0] rfl ?_
  exact hκ4 _ _ _ _
set_option maxHeartbeats 4000000 in
set_option maxRecDepth 100000 in
theorem b_X4_conkersAheadOf_81 {Γ : Cx} {l : Launch} {ω : Wd} {M0 : Mm} {k : Nat} (hk : kS k) (h : CxOk Γ l ⟨0, 0, 0, 0⟩ 6 ω LC cX4_conkersAheadOf yX4_conkersAheadOf.cls wsX4_conkersAheadOf) (hR : RetI Γ ω LC cX4_conkersAheadOf .int) (κ4 : Int32 → Int32 → Int32 → Tm → Option (Int32 × Tm)) (hκ4 : ∀ (b1 : Int32) (b2 : Int32) (b3 : Int32) (T : Tm), Gq Γ ω LC (uM M0 k) 4 [(0, .ref (th ω k 0)), (1, .int b1), (2, .int b2), (3, .int b3)] [] T (κ4 b1 b2 b3 T)) : ∀ (b1 : Int32) (b2 : Int32) (b3 : Int32) (T : Tm), Gq Γ ω LC (uM M0 k) 81 [(0, .ref (th ω k 0)), (1, .int b1), (2, .int b2), (3, .int b3)] [] T (m_X4_conkersAheadOf_81 κ4 b1 b2 b3 T) := by
  intro b1 b2 b3 T
  unfold m_X4_conkersAheadOf_81
  refine g_iinc h (b2 + 1) (lv' := [(2, .int (b2 + 1)), (0, .ref (th ω k 0)), (1, .int b1), (3, .int b3)]) dX4_conkersAheadOf_81 2 rfl (congrArg (fun z => b2 + z) (by decide)) (by decide) [0, 1, 2, 3] rfl ?_
  refine g_sub (lv' := [(0, .ref (th ω k 0)), (1, .int b1), (2, .int (b2 + 1)), (3, .int b3)]) [1, 2, 0, 3] rfl ?_
  exact b_X4_conkersAheadOf_84 hk h hR _ hκ4 _ _ _ _
set_option maxHeartbeats 4000000 in
set_option maxRecDepth 100000 in
theorem b_X4_conkersAheadOf_59 {Γ : Cx} {l : Launch} {ω : Wd} {M0 : Mm} {k : Nat} (hk : kS k) (h : CxOk Γ l ⟨0, 0, 0, 0⟩ 6 ω LC cX4_conkersAheadOf yX4_conkersAheadOf.cls wsX4_conkersAheadOf) (hR : RetI Γ ω LC cX4_conkersAheadOf .int) (κ4 : Int32 → Int32 → Int32 → Tm → Option (Int32 × Tm)) (hκ4 : ∀ (b1 : Int32) (b2 : Int32) (b3 : Int32) (T : Tm), Gq Γ ω LC (uM M0 k) 4 [(0, .ref (th ω k 0)), (1, .int b1), (2, .int b2), (3, .int b3)] [] T (κ4 b1 b2 b3 T)) : ∀ (b1 : Int32) (b2 : Int32) (b3 : Int32) (b4 : Int32) (s0 : Int32) (T : Tm), Gq Γ ω LC (uM M0 k) 59 [(0, .ref (th ω k 0)), (1, .int b1), (2, .int b2), (3, .int b3), (4, .int b4)] [.int s0] T (m_X4_conkersAheadOf_59 κ4 b1 b2 b3 b4 s0 T) := by
  intro b1 b2 b3 b4 s0 T
  unfold m_X4_conkersAheadOf_59
  refine g_istore h (lv' := [(5, .int s0), (0, .ref (th ω k 0)), (1, .int b1), (2, .int b2), (3, .int b3), (4, .int b4)]) dX4_conkersAheadOf_59 (by decide) [0, 1, 2, 3, 4, 5] rfl ?_
  refine g_aload_n h 1 dX4_conkersAheadOf_61 rfl rfl ?_
  refine g_getR h (index := 36) (j := 8) (inS hk 0 (by decide)) (C := RX4) (T := TX4) (N := 13) rfl n_X4_conkersAheadOf_4 (by decide) rfl (by decide +kernel) dX4_conkersAheadOf_62 ?_
  refine g_iload_n h 4 dX4_conkersAheadOf_65 rfl rfl ?_
  refine g_iald h (v := T 9 b3.toNatClampNeg) (uMr M0 k _ _ _) (inS hk 9 (by decide)) dX4_conkersAheadOf_66 ?_
  refine g_ni (fun v1 => ?_)
  refine g_iconst h 2 dX4_conkersAheadOf_67 (by decide) ?_
  refine g_icmp_eq h 84 dX4_conkersAheadOf_68 (by decide) (fun hc2 => ?_) (fun hc2 => ?_)
  · skip
    refine g_sub (lv' := [(0, .ref (th ω k 0)), (1, .int b1), (2, .int b2), (3, .int b3)]) [1, 2, 3, 4] rfl ?_
    exact b_X4_conkersAheadOf_84 hk h hR _ hκ4 _ _ _ _
  · skip
    refine g_iload h 5 dX4_conkersAheadOf_71 rfl ?_
    refine g_if_ne h 81 dX4_conkersAheadOf_73 (by decide) (fun hc3 => ?_) (fun hc3 => ?_)
    · skip
      refine g_iload h 0 dX4_conkersAheadOf_76 rfl ?_
      refine g_if_eq h 84 dX4_conkersAheadOf_78 (by decide) (fun hc4 => ?_) (fun hc4 => ?_)
      · skip
        refine g_sub (lv' := [(0, .ref (th ω k 0)), (1, .int b1), (2, .int b2), (3, .int b3)]) [1, 2, 3, 4] rfl ?_
        exact b_X4_conkersAheadOf_84 hk h hR _ hκ4 _ _ _ _
      · skip
        refine g_sub (lv' := [(0, .ref (th ω k 0)), (1, .int b1), (2, .int b2), (3, .int b3)]) [1, 2, 3, 4] rfl ?_
        exact b_X4_conkersAheadOf_81 hk h hR _ hκ4 _ _ _ _
    · skip
      refine g_sub (lv' := [(0, .ref (th ω k 0)), (1, .int b1), (2, .int b2), (3, .int b3)]) [1, 2, 3, 4] rfl ?_
      exact b_X4_conkersAheadOf_81 hk h hR _ hκ4 _ _ _ _
set_option maxHeartbeats 4000000 in
set_option maxRecDepth 100000 in
theorem b_X4_conkersAheadOf_58 {Γ : Cx} {l : Launch} {ω : Wd} {M0 : Mm} {k : Nat} (hk : kS k) (h : CxOk Γ l ⟨0, 0, 0, 0⟩ 6 ω LC cX4_conkersAheadOf yX4_conkersAheadOf.cls wsX4_conkersAheadOf) (hR : RetI Γ ω LC cX4_conkersAheadOf .int) (κ4 : Int32 → Int32 → Int32 → Tm → Option (Int32 × Tm)) (hκ4 : ∀ (b1 : Int32) (b2 : Int32) (b3 : Int32) (T : Tm), Gq Γ ω LC (uM M0 k) 4 [(0, .ref (th ω k 0)), (1, .int b1), (2, .int b2), (3, .int b3)] [] T (κ4 b1 b2 b3 T)) : ∀ (b1 : Int32) (b2 : Int32) (b3 : Int32) (b4 : Int32) (T : Tm), Gq Γ ω LC (uM M0 k) 58 [(0, .ref (th ω k 0)), (1, .int b1), (2, .int b2), (3, .int b3), (4, .int b4)] [] T (m_X4_conkersAheadOf_58 κ4 b1 b2 b3 b4 T) := by
  intro b1 b2 b3 b4 T
  unfold m_X4_conkersAheadOf_58
  refine g_iconst h 0 dX4_conkersAheadOf_58 (by decide) ?_
  exact b_X4_conkersAheadOf_59 hk h hR _ hκ4 _ _ _ _ _ _
set_option maxHeartbeats 4000000 in
set_option maxRecDepth 100000 in
theorem b_X4_conkersAheadOf_32 {Γ : Cx} {l : Launch} {ω : Wd} {M0 : Mm} {k : Nat} (hk : kS k) (h : CxOk Γ l ⟨0, 0, 0, 0⟩ 6 ω LC cX4_conkersAheadOf yX4_conkersAheadOf.cls wsX4_conkersAheadOf) (hR : RetI Γ ω LC cX4_conkersAheadOf .int) (κ4 : Int32 → Int32 → Int32 → Tm → Option (Int32 × Tm)) (hκ4 : ∀ (b1 : Int32) (b2 : Int32) (b3 : Int32) (T : Tm), Gq Γ ω LC (uM M0 k) 4 [(0, .ref (th ω k 0)), (1, .int b1), (2, .int b2), (3, .int b3)] [] T (κ4 b1 b2 b3 T)) : ∀ (b1 : Int32) (b2 : Int32) (b3 : Int32) (s0 : Int32) (T : Tm), Gq Γ ω LC (uM M0 k) 32 [(0, .ref (th ω k 0)), (1, .int b1), (2, .int b2), (3, .int b3)] [.int s0] T (m_X4_conkersAheadOf_32 κ4 b1 b2 b3 s0 T) := by
  intro b1 b2 b3 s0 T
  unfold m_X4_conkersAheadOf_32
  refine g_istore h (lv' := [(4, .int s0), (0, .ref (th ω k 0)), (1, .int b1), (2, .int b2), (3, .int b3)]) dX4_conkersAheadOf_32 (by decide) [0, 1, 2, 3, 4] rfl ?_
  refine g_aload_n h 1 dX4_conkersAheadOf_34 rfl rfl ?_
  refine g_getR h (index := 30) (j := 6) (inS hk 0 (by decide)) (C := RX4) (T := TX4) (N := 13) rfl n_X4_conkersAheadOf_4 (by decide) rfl (by decide +kernel) dX4_conkersAheadOf_35 ?_
  refine g_iload_n h 4 dX4_conkersAheadOf_38 rfl rfl ?_
  refine g_iald h (v := T 7 b3.toNatClampNeg) (uMr M0 k _ _ _) (inS hk 7 (by decide)) dX4_conkersAheadOf_39 ?_
  refine g_ni (fun v1 => ?_)
  refine g_aload_n h 1 dX4_conkersAheadOf_40 rfl rfl ?_
  refine g_getR h (index := 30) (j := 6) (inS hk 0 (by decide)) (C := RX4) (T := TX4) (N := 13) rfl n_X4_conkersAheadOf_4 (by decide) rfl (by decide +kernel) dX4_conkersAheadOf_41 ?_
  refine g_iload_n h 2 dX4_conkersAheadOf_44 rfl rfl ?_
  refine g_iald h (v := T 7 b1.toNatClampNeg) (uMr M0 k _ _ _) (inS hk 7 (by decide)) dX4_conkersAheadOf_45 ?_
  refine g_ni (fun v2 => ?_)
  refine g_icmp_ne h 58 dX4_conkersAheadOf_46 (by decide) (fun hc3 => ?_) (fun hc3 => ?_)
  · skip
    refine g_iload_n h 4 dX4_conkersAheadOf_49 rfl rfl ?_
    refine g_iload_n h 2 dX4_conkersAheadOf_50 rfl rfl ?_
    refine g_icmp_ge h 58 dX4_conkersAheadOf_51 (by decide) (fun hc4 => ?_) (fun hc4 => ?_)
    · skip
      refine g_sub (lv' := [(0, .ref (th ω k 0)), (1, .int b1), (2, .int b2), (3, .int b3), (4, .int s0)]) [1, 2, 3, 4, 0] rfl ?_
      exact b_X4_conkersAheadOf_58 hk h hR _ hκ4 _ _ _ _ _
    · skip
      refine g_iconst h 1 dX4_conkersAheadOf_54 (by decide) ?_
      refine g_goto h (tgt := 59) dX4_conkersAheadOf_55 (by decide) ?_
      refine g_sub (lv' := [(0, .ref (th ω k 0)), (1, .int b1), (2, .int b2), (3, .int b3), (4, .int s0)]) [1, 2, 3, 4, 0] rfl ?_
      exact b_X4_conkersAheadOf_59 hk h hR _ hκ4 _ _ _ _ _ _
  · skip
    refine g_sub (lv' := [(0, .ref (th ω k 0)), (1, .int b1), (2, .int b2), (3, .int b3), (4, .int s0)]) [1, 2, 3, 4, 0] rfl ?_
    exact b_X4_conkersAheadOf_58 hk h hR _ hκ4 _ _ _ _ _
set_option maxHeartbeats 4000000 in
set_option maxRecDepth 100000 in
theorem b_X4_conkersAheadOf_4 {Γ : Cx} {l : Launch} {ω : Wd} {M0 : Mm} {k : Nat} (hk : kS k) (h : CxOk Γ l ⟨0, 0, 0, 0⟩ 6 ω LC cX4_conkersAheadOf yX4_conkersAheadOf.cls wsX4_conkersAheadOf) (hR : RetI Γ ω LC cX4_conkersAheadOf .int) : ∀ (n : Nat) (b1 : Int32) (b2 : Int32) (b3 : Int32) (T : Tm), Gq Γ ω LC (uM M0 k) 4 [(0, .ref (th ω k 0)), (1, .int b1), (2, .int b2), (3, .int b3)] [] T (m_X4_conkersAheadOf_4 n b1 b2 b3 T) := by
  intro n
  induction n with
  | zero =>
    intro b1 b2 b3 T
    rw [m_X4_conkersAheadOf_4.eq_1]
    exact g_none
  | succ n ih =>
    intro b1 b2 b3 T
    rw [m_X4_conkersAheadOf_4.eq_2]
    refine g_iload_n h 3 dX4_conkersAheadOf_4 rfl rfl ?_
    refine g_aload_n h 0 dX4_conkersAheadOf_5 rfl rfl ?_
    refine g_getI h (v := T 0 10) (uMr M0 k _ _ _) (index := 42) (j := 10) (inS hk 0 (by decide)) (C := RX4) (T := TX4) (N := 13) rfl n_X4_conkersAheadOf_4 (by decide) rfl (by decide +kernel) dX4_conkersAheadOf_6 ?_
    refine g_ni (fun v1 => ?_)
    refine g_icmp_ge h 90 dX4_conkersAheadOf_9 (by decide) (fun hc2 => ?_) (fun hc2 => ?_)
    · skip
      refine g_iload_n h 2 dX4_conkersAheadOf_90 rfl rfl ?_
      exact g_iret hR rfl dX4_conkersAheadOf_91
    · skip
      refine g_aload_n h 0 dX4_conkersAheadOf_12 rfl rfl ?_
      refine g_getR h (index := 30) (j := 6) (inS hk 0 (by decide)) (C := RX4) (T := TX4) (N := 13) rfl n_X4_conkersAheadOf_4 (by decide) rfl (by decide +kernel) dX4_conkersAheadOf_13 ?_
      refine g_iload_n h 3 dX4_conkersAheadOf_16 rfl rfl ?_
      refine g_iald h (v := T 7 b3.toNatClampNeg) (uMr M0 k _ _ _) (inS hk 7 (by decide)) dX4_conkersAheadOf_17 ?_
      refine g_ni (fun v3 => ?_)
      refine g_aload_n h 0 dX4_conkersAheadOf_18 rfl rfl ?_
      refine g_getR h (index := 30) (j := 6) (inS hk 0 (by decide)) (C := RX4) (T := TX4) (N := 13) rfl n_X4_conkersAheadOf_4 (by decide) rfl (by decide +kernel) dX4_conkersAheadOf_19 ?_
      refine g_iload_n h 1 dX4_conkersAheadOf_22 rfl rfl ?_
      refine g_iald h (v := T 7 b1.toNatClampNeg) (uMr M0 k _ _ _) (inS hk 7 (by decide)) dX4_conkersAheadOf_23 ?_
      refine g_ni (fun v4 => ?_)
      refine g_icmp_le h 31 dX4_conkersAheadOf_24 (by decide) (fun hc5 => ?_) (fun hc5 => ?_)
      · skip
        refine g_iconst h 0 dX4_conkersAheadOf_31 (by decide) ?_
        exact b_X4_conkersAheadOf_32 hk h hR _ ih _ _ _ _ _
      · skip
        refine g_iconst h 1 dX4_conkersAheadOf_27 (by decide) ?_
        refine g_goto h (tgt := 32) dX4_conkersAheadOf_28 (by decide) ?_
        exact b_X4_conkersAheadOf_32 hk h hR _ ih _ _ _ _ _
set_option maxHeartbeats 4000000 in
set_option maxRecDepth 100000 in
theorem c_X4_conkersAheadOf (l : Launch) (ω : Wd) (k : Nat) (hk : kS k) (M0 : Mm) (T : Tm) (a1 : Int32) {r : Int32} {T' : Tm} (hm : m_X4_conkersAheadOf a1 T = some (r, T')) : MI l yX4_conkersAheadOf wsX4_conkersAheadOf ⟨0, 0, 0, 0⟩ ω LC [.ref (th ω k 0), .int a1] (uM M0 k T) r (uM M0 k T') := by
  refine met_i (cc := cX4_conkersAheadOf) (maxL := 6) (ty := .int) (by decide +kernel) rfl (Nat.le_of_ble_eq_true rfl) LC_nd ?_
  intro Γ h hR ht
  suffices K : Gq Γ ω LC (uM M0 k) 0 [(0, .ref (th ω k 0)), (1, .int a1)] [] T (m_X4_conkersAheadOf a1 T) from K (r, T') hm ht
  unfold m_X4_conkersAheadOf
  refine g_iconst h 0 dX4_conkersAheadOf_0 (by decide) ?_
  refine g_istore_n h rfl (lv' := [(2, .int 0), (0, .ref (th ω k 0)), (1, .int a1)]) dX4_conkersAheadOf_1 (by decide) [0, 1, 2] rfl ?_
  refine g_iconst h 0 dX4_conkersAheadOf_2 (by decide) ?_
  refine g_istore_n h rfl (lv' := [(3, .int 0), (2, .int 0), (0, .ref (th ω k 0)), (1, .int a1)]) dX4_conkersAheadOf_3 (by decide) [0, 1, 2, 3] rfl ?_
  refine g_sub (lv' := [(0, .ref (th ω k 0)), (1, .int a1), (2, .int 0), (3, .int 0)]) [2, 3, 1, 0] rfl ?_
  exact b_X4_conkersAheadOf_4 hk h hR fu _ _ _ _
theorem n_X4_conkerAtRank_4 : ∀ w ∈ wsX40, w ∈ wsX4_conkerAtRank := by decide +kernel
set_option maxHeartbeats 4000000 in
set_option maxRecDepth 100000 in
theorem b_X4_conkerAtRank_31 {Γ : Cx} {l : Launch} {ω : Wd} {M0 : Mm} {k : Nat} (hk : kS k) (h : CxOk Γ l ⟨1, 0, 0, 25⟩ 3 ω LC cX4_conkerAtRank yX4_conkerAtRank.cls wsX4_conkerAtRank) (hR : RetI Γ ω LC cX4_conkerAtRank .int) (κ2 : Int32 → Int32 → Tm → Option (Int32 × Tm)) (hκ2 : ∀ (b1 : Int32) (b2 : Int32) (T : Tm), Gq Γ ω LC (uM M0 k) 2 [(0, .ref (th ω k 0)), (1, .int b1), (2, .int b2)] [] T (κ2 b1 b2 T)) : ∀ (b1 : Int32) (b2 : Int32) (T : Tm), Gq Γ ω LC (uM M0 k) 31 [(0, .ref (th ω k 0)), (1, .int b1), (2, .int b2)] [] T (m_X4_conkerAtRank_31 κ2 b1 b2 T) := by
  intro b1 b2 T
  unfold m_X4_conkerAtRank_31
  refine g_iinc h (b2 + 1) (lv' := [(2, .int (b2 + 1)), (0, .ref (th ω k 0)), (1, .int b1)]) dX4_conkerAtRank_31 2 rfl (congrArg (fun z => b2 + z) (by decide)) (by decide) [0, 1, 2] rfl ?_
  refine g_goto h (tgt := 2) dX4_conkerAtRank_34 (by decide) ?_
  refine g_sub (lv' := [(0, .ref (th ω k 0)), (1, .int b1), (2, .int (b2 + 1))]) [1, 2, 0] rfl ?_
  exact hκ2 _ _ _
set_option maxHeartbeats 4000000 in
set_option maxRecDepth 100000 in
theorem b_X4_conkerAtRank_2 {Γ : Cx} {l : Launch} {ω : Wd} {M0 : Mm} {k : Nat} (hk : kS k) (h : CxOk Γ l ⟨1, 0, 0, 25⟩ 3 ω LC cX4_conkerAtRank yX4_conkerAtRank.cls wsX4_conkerAtRank) (hR : RetI Γ ω LC cX4_conkerAtRank .int) : ∀ (n : Nat) (b1 : Int32) (b2 : Int32) (T : Tm), Gq Γ ω LC (uM M0 k) 2 [(0, .ref (th ω k 0)), (1, .int b1), (2, .int b2)] [] T (m_X4_conkerAtRank_2 n b1 b2 T) := by
  intro n
  induction n with
  | zero =>
    intro b1 b2 T
    rw [m_X4_conkerAtRank_2.eq_1]
    exact g_none
  | succ n ih =>
    intro b1 b2 T
    rw [m_X4_conkerAtRank_2.eq_2]
    refine g_iload_n h 2 dX4_conkerAtRank_2 rfl rfl ?_
    refine g_aload_n h 0 dX4_conkerAtRank_3 rfl rfl ?_
    refine g_getI h (v := T 0 10) (uMr M0 k _ _ _) (index := 42) (j := 10) (inS hk 0 (by decide)) (C := RX4) (T := TX4) (N := 13) rfl n_X4_conkerAtRank_4 (by decide) rfl (by decide +kernel) dX4_conkerAtRank_4 ?_
    refine g_ni (fun v1 => ?_)
    refine g_icmp_ge h 37 dX4_conkerAtRank_7 (by decide) (fun hc2 => ?_) (fun hc2 => ?_)
    · skip
      refine g_bipush h (-5) dX4_conkerAtRank_37 (by decide) ?_
      exact g_iret hR rfl dX4_conkerAtRank_39
    · skip
      refine g_aload_n h 0 dX4_conkerAtRank_10 rfl rfl ?_
      refine g_getR h (index := 36) (j := 8) (inS hk 0 (by decide)) (C := RX4) (T := TX4) (N := 13) rfl n_X4_conkerAtRank_4 (by decide) rfl (by decide +kernel) dX4_conkerAtRank_11 ?_
      refine g_iload_n h 2 dX4_conkerAtRank_14 rfl rfl ?_
      refine g_iald h (v := T 9 b2.toNatClampNeg) (uMr M0 k _ _ _) (inS hk 9 (by decide)) dX4_conkerAtRank_15 ?_
      refine g_ni (fun v3 => ?_)
      refine g_iconst h 2 dX4_conkerAtRank_16 (by decide) ?_
      refine g_icmp_eq h 31 dX4_conkerAtRank_17 (by decide) (fun hc4 => ?_) (fun hc4 => ?_)
      · skip
        exact b_X4_conkerAtRank_31 hk h hR _ ih _ _ _
      · skip
        refine g_aload_n h 0 dX4_conkerAtRank_20 rfl rfl ?_
        refine g_iload_n h 2 dX4_conkerAtRank_21 rfl rfl ?_
        refine g_callI h (As := [.int b2]) (fun t => t) (fun r t hG => c_X4_conkersAheadOf l ω k hk M0 _ b2 hG) (inS hk 0 (by decide)) (C := RX4) (T := TX4) (N := 13) rfl 1 rfl gX4_conkerAtRank_X4_conkersAheadOf rfl rfl rfl (by decide +kernel) (by decide) (st0 := _) rfl (Nat.le_of_ble_eq_true rfl) dX4_conkerAtRank_22 (fun r5 T6 => ?_)
        refine g_iload_n h 1 dX4_conkerAtRank_25 rfl rfl ?_
        refine g_icmp_ne h 31 dX4_conkerAtRank_26 (by decide) (fun hc7 => ?_) (fun hc7 => ?_)
        · skip
          refine g_iload_n h 2 dX4_conkerAtRank_29 rfl rfl ?_
          exact g_iret hR rfl dX4_conkerAtRank_30
        · skip
          exact b_X4_conkerAtRank_31 hk h hR _ ih _ _ _
set_option maxHeartbeats 4000000 in
set_option maxRecDepth 100000 in
theorem c_X4_conkerAtRank (l : Launch) (ω : Wd) (k : Nat) (hk : kS k) (M0 : Mm) (T : Tm) (a1 : Int32) {r : Int32} {T' : Tm} (hm : m_X4_conkerAtRank a1 T = some (r, T')) : MI l yX4_conkerAtRank wsX4_conkerAtRank ⟨1, 0, 0, 25⟩ ω LC [.ref (th ω k 0), .int a1] (uM M0 k T) r (uM M0 k T') := by
  refine met_i (cc := cX4_conkerAtRank) (maxL := 3) (ty := .int) (by decide +kernel) rfl (Nat.le_of_ble_eq_true rfl) LC_nd ?_
  intro Γ h hR ht
  suffices K : Gq Γ ω LC (uM M0 k) 0 [(0, .ref (th ω k 0)), (1, .int a1)] [] T (m_X4_conkerAtRank a1 T) from K (r, T') hm ht
  unfold m_X4_conkerAtRank
  refine g_iconst h 0 dX4_conkerAtRank_0 (by decide) ?_
  refine g_istore_n h rfl (lv' := [(2, .int 0), (0, .ref (th ω k 0)), (1, .int a1)]) dX4_conkerAtRank_1 (by decide) [0, 1, 2] rfl ?_
  refine g_sub (lv' := [(0, .ref (th ω k 0)), (1, .int a1), (2, .int 0)]) [1, 2, 0] rfl ?_
  exact b_X4_conkerAtRank_2 hk h hR fu _ _ _
theorem n_X4_isOf_4 : ∀ w ∈ wsX40, w ∈ wsX4_isOf := by decide +kernel
set_option maxHeartbeats 4000000 in
set_option maxRecDepth 100000 in
theorem b_X4_isOf_15 {Γ : Cx} {l : Launch} {ω : Wd} {M0 : Mm} {k : Nat} (hk : kS k) (h : CxOk Γ l ⟨0, 0, 0, 0⟩ 3 ω LC cX4_isOf yX4_isOf.cls wsX4_isOf) (hR : RetI Γ ω LC cX4_isOf .boolean) : ∀ (T : Tm), Gq Γ ω LC (uM M0 k) 15 [] [] T (m_X4_isOf_15 T) := by
  intro T
  unfold m_X4_isOf_15
  refine g_iconst h 1 dX4_isOf_15 (by decide) ?_
  refine g_goto h (tgt := 20) dX4_isOf_16 (by decide) ?_
  exact g_iret hR (by decide) dX4_isOf_20
set_option maxHeartbeats 4000000 in
set_option maxRecDepth 100000 in
theorem c_X4_isOf (l : Launch) (ω : Wd) (k : Nat) (hk : kS k) (M0 : Mm) (T : Tm) (a1 : Int32) (a2 : Int32) {r : Int32} {T' : Tm} (hm : m_X4_isOf a1 a2 T = some (r, T')) : MI l yX4_isOf wsX4_isOf ⟨0, 0, 0, 0⟩ ω LC [.ref (th ω k 0), .int a1, .int a2] (uM M0 k T) r (uM M0 k T') := by
  refine met_i (cc := cX4_isOf) (maxL := 3) (ty := .boolean) (by decide +kernel) rfl (Nat.le_of_ble_eq_true rfl) LC_nd ?_
  intro Γ h hR ht
  suffices K : Gq Γ ω LC (uM M0 k) 0 [(0, .ref (th ω k 0)), (1, .int a1), (2, .int a2)] [] T (m_X4_isOf a1 a2 T) from K (r, T') hm ht
  unfold m_X4_isOf
  refine g_iload_n h 2 dX4_isOf_0 rfl rfl ?_
  refine g_iconst h (-1) dX4_isOf_1 (by decide) ?_
  refine g_icmp_eq h 15 dX4_isOf_2 (by decide) (fun hc1 => ?_) (fun hc1 => ?_)
  · skip
    refine g_sub (lv' := []) [] rfl ?_
    exact b_X4_isOf_15 hk h hR _
  · skip
    refine g_aload_n h 0 dX4_isOf_5 rfl rfl ?_
    refine g_getR h (index := 18) (j := 2) (inS hk 0 (by decide)) (C := RX4) (T := TX4) (N := 13) rfl n_X4_isOf_4 (by decide) rfl (by decide +kernel) dX4_isOf_6 ?_
    refine g_iload_n h 1 dX4_isOf_9 rfl rfl ?_
    refine g_iald h (v := T 3 a1.toNatClampNeg) (uMr M0 k _ _ _) (inS hk 3 (by decide)) dX4_isOf_10 ?_
    refine g_ni (fun v2 => ?_)
    refine g_iload_n h 2 dX4_isOf_11 rfl rfl ?_
    refine g_icmp_ne h 19 dX4_isOf_12 (by decide) (fun hc3 => ?_) (fun hc3 => ?_)
    · skip
      refine g_sub (lv' := []) [] rfl ?_
      exact b_X4_isOf_15 hk h hR _
    · skip
      refine g_iconst h 0 dX4_isOf_19 (by decide) ?_
      exact g_iret hR (by decide) dX4_isOf_20
theorem n_X4_conkersBeing_4 : ∀ w ∈ wsX40, w ∈ wsX4_conkersBeing := by decide +kernel
set_option maxHeartbeats 4000000 in
set_option maxRecDepth 100000 in
theorem b_X4_conkersBeing_38 {Γ : Cx} {l : Launch} {ω : Wd} {M0 : Mm} {k : Nat} (hk : kS k) (h : CxOk Γ l ⟨1, 0, 0, 22⟩ 5 ω LC cX4_conkersBeing yX4_conkersBeing.cls wsX4_conkersBeing) (hR : RetI Γ ω LC cX4_conkersBeing .int) (κ5 : Int32 → Int32 → Int32 → Int32 → Tm → Option (Int32 × Tm)) (hκ5 : ∀ (b1 : Int32) (b2 : Int32) (b3 : Int32) (b4 : Int32) (T : Tm), Gq Γ ω LC (uM M0 k) 5 [(0, .ref (th ω k 0)), (1, .int b1), (2, .int b2), (3, .int b3), (4, .int b4)] [] T (κ5 b1 b2 b3 b4 T)) : ∀ (b1 : Int32) (b2 : Int32) (b3 : Int32) (b4 : Int32) (T : Tm), Gq Γ ω LC (uM M0 k) 38 [(0, .ref (th ω k 0)), (1, .int b1), (2, .int b2), (3, .int b3), (4, .int b4)] [] T (m_X4_conkersBeing_38 κ5 b1 b2 b3 b4 T) := by
  intro b1 b2 b3 b4 T
  unfold m_X4_conkersBeing_38
  refine g_iinc h (b4 + 1) (lv' := [(4, .int (b4 + 1)), (0, .ref (th ω k 0)), (1, .int b1), (2, .int b2), (3, .int b3)]) dX4_conkersBeing_38 4 rfl (congrArg (fun z => b4 + z) (by decide)) (by decide) [0, 1, 2, 3, 4] rfl ?_
  refine g_goto h (tgt := 5) dX4_conkersBeing_41 (by decide) ?_
  refine g_sub (lv' := [(0, .ref (th ω k 0)), (1, .int b1), (2, .int b2), (3, .int b3), (4, .int (b4 + 1))]) [1, 2, 3, 4, 0] rfl ?_
  exact hκ5 _ _ _ _ _
set_option maxHeartbeats 4000000 in
set_option maxRecDepth 100000 in
theorem b_X4_conkersBeing_5 {Γ : Cx} {l : Launch} {ω : Wd} {M0 : Mm} {k : Nat} (hk : kS k) (h : CxOk Γ l ⟨1, 0, 0, 22⟩ 5 ω LC cX4_conkersBeing yX4_conkersBeing.cls wsX4_conkersBeing) (hR : RetI Γ ω LC cX4_conkersBeing .int) : ∀ (n : Nat) (b1 : Int32) (b2 : Int32) (b3 : Int32) (b4 : Int32) (T : Tm), Gq Γ ω LC (uM M0 k) 5 [(0, .ref (th ω k 0)), (1, .int b1), (2, .int b2), (3, .int b3), (4, .int b4)] [] T (m_X4_conkersBeing_5 n b1 b2 b3 b4 T) := by
  intro n
  induction n with
  | zero =>
    intro b1 b2 b3 b4 T
    rw [m_X4_conkersBeing_5.eq_1]
    exact g_none
  | succ n ih =>
    intro b1 b2 b3 b4 T
    rw [m_X4_conkersBeing_5.eq_2]
    refine g_iload h 4 dX4_conkersBeing_5 rfl ?_
    refine g_aload_n h 0 dX4_conkersBeing_7 rfl rfl ?_
    refine g_getI h (v := T 0 10) (uMr M0 k _ _ _) (index := 42) (j := 10) (inS hk 0 (by decide)) (C := RX4) (T := TX4) (N := 13) rfl n_X4_conkersBeing_4 (by decide) rfl (by decide +kernel) dX4_conkersBeing_8 ?_
    refine g_ni (fun v1 => ?_)
    refine g_icmp_ge h 44 dX4_conkersBeing_11 (by decide) (fun hc2 => ?_) (fun hc2 => ?_)
    · skip
      refine g_iload_n h 3 dX4_conkersBeing_44 rfl rfl ?_
      exact g_iret hR rfl dX4_conkersBeing_45
    · skip
      refine g_aload_n h 0 dX4_conkersBeing_14 rfl rfl ?_
      refine g_getR h (index := 36) (j := 8) (inS hk 0 (by decide)) (C := RX4) (T := TX4) (N := 13) rfl n_X4_conkersBeing_4 (by decide) rfl (by decide +kernel) dX4_conkersBeing_15 ?_
      refine g_iload h 4 dX4_conkersBeing_18 rfl ?_
      refine g_iald h (v := T 9 b4.toNatClampNeg) (uMr M0 k _ _ _) (inS hk 9 (by decide)) dX4_conkersBeing_20 ?_
      refine g_ni (fun v3 => ?_)
      refine g_iload_n h 1 dX4_conkersBeing_21 rfl rfl ?_
      refine g_icmp_ne h 38 dX4_conkersBeing_22 (by decide) (fun hc4 => ?_) (fun hc4 => ?_)
      · skip
        refine g_aload_n h 0 dX4_conkersBeing_25 rfl rfl ?_
        refine g_iload h 4 dX4_conkersBeing_26 rfl ?_
        refine g_iload_n h 2 dX4_conkersBeing_28 rfl rfl ?_
        refine g_callI h (As := [.int b4, .int b2]) (fun t => t) (fun r t hG => c_X4_isOf l ω k hk M0 _ b4 b2 hG) (inS hk 0 (by decide)) (C := RX4) (T := TX4) (N := 13) rfl 2 rfl gX4_conkersBeing_X4_isOf rfl rfl rfl (by decide +kernel) (by decide) (st0 := _) rfl (Nat.le_of_ble_eq_true rfl) dX4_conkersBeing_29 (fun r5 T6 => ?_)
        refine g_if_eq h 38 dX4_conkersBeing_32 (by decide) (fun hc7 => ?_) (fun hc7 => ?_)
        · skip
          exact b_X4_conkersBeing_38 hk h hR _ ih _ _ _ _ _
        · skip
          refine g_iinc h (b3 + 1) (lv' := [(3, .int (b3 + 1)), (0, .ref (th ω k 0)), (1, .int b1), (2, .int b2), (4, .int b4)]) dX4_conkersBeing_35 3 rfl (congrArg (fun z => b3 + z) (by decide)) (by decide) [0, 1, 2, 3, 4] rfl ?_
          refine g_sub (lv' := [(0, .ref (th ω k 0)), (1, .int b1), (2, .int b2), (3, .int (b3 + 1)), (4, .int b4)]) [1, 2, 3, 0, 4] rfl ?_
          exact b_X4_conkersBeing_38 hk h hR _ ih _ _ _ _ _
      · skip
        exact b_X4_conkersBeing_38 hk h hR _ ih _ _ _ _ _
set_option maxHeartbeats 4000000 in
set_option maxRecDepth 100000 in
theorem c_X4_conkersBeing (l : Launch) (ω : Wd) (k : Nat) (hk : kS k) (M0 : Mm) (T : Tm) (a1 : Int32) (a2 : Int32) {r : Int32} {T' : Tm} (hm : m_X4_conkersBeing a1 a2 T = some (r, T')) : MI l yX4_conkersBeing wsX4_conkersBeing ⟨1, 0, 0, 22⟩ ω LC [.ref (th ω k 0), .int a1, .int a2] (uM M0 k T) r (uM M0 k T') := by
  refine met_i (cc := cX4_conkersBeing) (maxL := 5) (ty := .int) (by decide +kernel) rfl (Nat.le_of_ble_eq_true rfl) LC_nd ?_
  intro Γ h hR ht
  suffices K : Gq Γ ω LC (uM M0 k) 0 [(0, .ref (th ω k 0)), (1, .int a1), (2, .int a2)] [] T (m_X4_conkersBeing a1 a2 T) from K (r, T') hm ht
  unfold m_X4_conkersBeing
  refine g_iconst h 0 dX4_conkersBeing_0 (by decide) ?_
  refine g_istore_n h rfl (lv' := [(3, .int 0), (0, .ref (th ω k 0)), (1, .int a1), (2, .int a2)]) dX4_conkersBeing_1 (by decide) [0, 1, 2, 3] rfl ?_
  refine g_iconst h 0 dX4_conkersBeing_2 (by decide) ?_
  refine g_istore h (lv' := [(4, .int 0), (3, .int 0), (0, .ref (th ω k 0)), (1, .int a1), (2, .int a2)]) dX4_conkersBeing_3 (by decide) [0, 1, 2, 3, 4] rfl ?_
  refine g_sub (lv' := [(0, .ref (th ω k 0)), (1, .int a1), (2, .int a2), (3, .int 0), (4, .int 0)]) [2, 3, 4, 1, 0] rfl ?_
  exact b_X4_conkersBeing_5 hk h hR fu _ _ _ _ _
theorem n_X4_conkersSmashedBy_4 : ∀ w ∈ wsX40, w ∈ wsX4_conkersSmashedBy := by decide +kernel
set_option maxHeartbeats 4000000 in
set_option maxRecDepth 100000 in
theorem b_X4_conkersSmashedBy_25 {Γ : Cx} {l : Launch} {ω : Wd} {M0 : Mm} {k : Nat} (hk : kS k) (h : CxOk Γ l ⟨0, 0, 0, 0⟩ 4 ω LC cX4_conkersSmashedBy yX4_conkersSmashedBy.cls wsX4_conkersSmashedBy) (hR : RetI Γ ω LC cX4_conkersSmashedBy .int) (κ4 : Int32 → Int32 → Int32 → Tm → Option (Int32 × Tm)) (hκ4 : ∀ (b1 : Int32) (b2 : Int32) (b3 : Int32) (T : Tm), Gq Γ ω LC (uM M0 k) 4 [(0, .ref (th ω k 0)), (1, .int b1), (2, .int b2), (3, .int b3)] [] T (κ4 b1 b2 b3 T)) : ∀ (b1 : Int32) (b2 : Int32) (b3 : Int32) (T : Tm), Gq Γ ω LC (uM M0 k) 25 [(0, .ref (th ω k 0)), (1, .int b1), (2, .int b2), (3, .int b3)] [] T (m_X4_conkersSmashedBy_25 κ4 b1 b2 b3 T) := by
  intro b1 b2 b3 T
  unfold m_X4_conkersSmashedBy_25
  refine g_iinc h (b3 + 1) (lv' := [(3, .int (b3 + 1)), (0, .ref (th ω k 0)), (1, .int b1), (2, .int b2)]) dX4_conkersSmashedBy_25 3 rfl (congrArg (fun z => b3 + z) (by decide)) (by decide) [0, 1, 2, 3] rfl ?_
  refine g_goto h (tgt := 4) dX4_conkersSmashedBy_28 (by decide) ?_
  refine g_sub (lv' := [(0, .ref (th ω k 0)), (1, .int b1), (2, .int b2), (3, .int (b3 + 1))]) [1, 2, 3, 0] rfl ?_
  exact hκ4 _ _ _ _
set_option maxHeartbeats 4000000 in
set_option maxRecDepth 100000 in
theorem b_X4_conkersSmashedBy_4 {Γ : Cx} {l : Launch} {ω : Wd} {M0 : Mm} {k : Nat} (hk : kS k) (h : CxOk Γ l ⟨0, 0, 0, 0⟩ 4 ω LC cX4_conkersSmashedBy yX4_conkersSmashedBy.cls wsX4_conkersSmashedBy) (hR : RetI Γ ω LC cX4_conkersSmashedBy .int) : ∀ (n : Nat) (b1 : Int32) (b2 : Int32) (b3 : Int32) (T : Tm), Gq Γ ω LC (uM M0 k) 4 [(0, .ref (th ω k 0)), (1, .int b1), (2, .int b2), (3, .int b3)] [] T (m_X4_conkersSmashedBy_4 n b1 b2 b3 T) := by
  intro n
  induction n with
  | zero =>
    intro b1 b2 b3 T
    rw [m_X4_conkersSmashedBy_4.eq_1]
    exact g_none
  | succ n ih =>
    intro b1 b2 b3 T
    rw [m_X4_conkersSmashedBy_4.eq_2]
    refine g_iload_n h 3 dX4_conkersSmashedBy_4 rfl rfl ?_
    refine g_aload_n h 0 dX4_conkersSmashedBy_5 rfl rfl ?_
    refine g_getI h (v := T 0 10) (uMr M0 k _ _ _) (index := 42) (j := 10) (inS hk 0 (by decide)) (C := RX4) (T := TX4) (N := 13) rfl n_X4_conkersSmashedBy_4 (by decide) rfl (by decide +kernel) dX4_conkersSmashedBy_6 ?_
    refine g_ni (fun v1 => ?_)
    refine g_icmp_ge h 31 dX4_conkersSmashedBy_9 (by decide) (fun hc2 => ?_) (fun hc2 => ?_)
    · skip
      refine g_iload_n h 2 dX4_conkersSmashedBy_31 rfl rfl ?_
      exact g_iret hR rfl dX4_conkersSmashedBy_32
    · skip
      refine g_aload_n h 0 dX4_conkersSmashedBy_12 rfl rfl ?_
      refine g_getR h (index := 39) (j := 9) (inS hk 0 (by decide)) (C := RX4) (T := TX4) (N := 13) rfl n_X4_conkersSmashedBy_4 (by decide) rfl (by decide +kernel) dX4_conkersSmashedBy_13 ?_
      refine g_iload_n h 3 dX4_conkersSmashedBy_16 rfl rfl ?_
      refine g_iald h (v := T 10 b3.toNatClampNeg) (uMr M0 k _ _ _) (inS hk 10 (by decide)) dX4_conkersSmashedBy_17 ?_
      refine g_ni (fun v3 => ?_)
      refine g_iload_n h 1 dX4_conkersSmashedBy_18 rfl rfl ?_
      refine g_icmp_ne h 25 dX4_conkersSmashedBy_19 (by decide) (fun hc4 => ?_) (fun hc4 => ?_)
      · skip
        refine g_iinc h (b2 + 1) (lv' := [(2, .int (b2 + 1)), (0, .ref (th ω k 0)), (1, .int b1), (3, .int b3)]) dX4_conkersSmashedBy_22 2 rfl (congrArg (fun z => b2 + z) (by decide)) (by decide) [0, 1, 2, 3] rfl ?_
        refine g_sub (lv' := [(0, .ref (th ω k 0)), (1, .int b1), (2, .int (b2 + 1)), (3, .int b3)]) [1, 2, 0, 3] rfl ?_
        exact b_X4_conkersSmashedBy_25 hk h hR _ ih _ _ _ _
      · skip
        exact b_X4_conkersSmashedBy_25 hk h hR _ ih _ _ _ _
set_option maxHeartbeats 4000000 in
set_option maxRecDepth 100000 in
theorem c_X4_conkersSmashedBy (l : Launch) (ω : Wd) (k : Nat) (hk : kS k) (M0 : Mm) (T : Tm) (a1 : Int32) {r : Int32} {T' : Tm} (hm : m_X4_conkersSmashedBy a1 T = some (r, T')) : MI l yX4_conkersSmashedBy wsX4_conkersSmashedBy ⟨0, 0, 0, 0⟩ ω LC [.ref (th ω k 0), .int a1] (uM M0 k T) r (uM M0 k T') := by
  refine met_i (cc := cX4_conkersSmashedBy) (maxL := 4) (ty := .int) (by decide +kernel) rfl (Nat.le_of_ble_eq_true rfl) LC_nd ?_
  intro Γ h hR ht
  suffices K : Gq Γ ω LC (uM M0 k) 0 [(0, .ref (th ω k 0)), (1, .int a1)] [] T (m_X4_conkersSmashedBy a1 T) from K (r, T') hm ht
  unfold m_X4_conkersSmashedBy
  refine g_iconst h 0 dX4_conkersSmashedBy_0 (by decide) ?_
  refine g_istore_n h rfl (lv' := [(2, .int 0), (0, .ref (th ω k 0)), (1, .int a1)]) dX4_conkersSmashedBy_1 (by decide) [0, 1, 2] rfl ?_
  refine g_iconst h 0 dX4_conkersSmashedBy_2 (by decide) ?_
  refine g_istore_n h rfl (lv' := [(3, .int 0), (2, .int 0), (0, .ref (th ω k 0)), (1, .int a1)]) dX4_conkersSmashedBy_3 (by decide) [0, 1, 2, 3] rfl ?_
  refine g_sub (lv' := [(0, .ref (th ω k 0)), (1, .int a1), (2, .int 0), (3, .int 0)]) [2, 3, 1, 0] rfl ?_
  exact b_X4_conkersSmashedBy_4 hk h hR fu _ _ _ _
theorem n_X4_conkersWithHeir_4 : ∀ w ∈ wsX40, w ∈ wsX4_conkersWithHeir := by decide +kernel
set_option maxHeartbeats 4000000 in
set_option maxRecDepth 100000 in
theorem c_X4_conkersWithHeir (l : Launch) (ω : Wd) (k : Nat) (hk : kS k) (M0 : Mm) (T : Tm) {r : Int32} {T' : Tm} (hm : m_X4_conkersWithHeir T = some (r, T')) : MI l yX4_conkersWithHeir wsX4_conkersWithHeir ⟨1, 0, 0, 23⟩ ω LC [.ref (th ω k 0)] (uM M0 k T) r (uM M0 k T') := by
  refine met_i (cc := cX4_conkersWithHeir) (maxL := 1) (ty := .int) (by decide +kernel) rfl (Nat.le_of_ble_eq_true rfl) LC_nd ?_
  intro Γ h hR ht
  suffices K : Gq Γ ω LC (uM M0 k) 0 [(0, .ref (th ω k 0))] [] T (m_X4_conkersWithHeir T) from K (r, T') hm ht
  unfold m_X4_conkersWithHeir
  refine g_aload_n h 0 dX4_conkersWithHeir_0 rfl rfl ?_
  refine g_getI h (v := T 0 10) (uMr M0 k _ _ _) (index := 42) (j := 10) (inS hk 0 (by decide)) (C := RX4) (T := TX4) (N := 13) rfl n_X4_conkersWithHeir_4 (by decide) rfl (by decide +kernel) dX4_conkersWithHeir_1 ?_
  refine g_ni (fun v1 => ?_)
  refine g_aload_n h 0 dX4_conkersWithHeir_4 rfl rfl ?_
  refine g_bipush h (-5) dX4_conkersWithHeir_5 (by decide) ?_
  refine g_callI h (As := [.int (-5)]) (fun t => t) (fun r t hG => c_X4_conkersSmashedBy l ω k hk M0 _ (-5) hG) (inS hk 0 (by decide)) (C := RX4) (T := TX4) (N := 13) rfl 1 rfl gX4_conkersWithHeir_X4_conkersSmashedBy rfl rfl rfl (by decide +kernel) (by decide) (st0 := _) rfl (Nat.le_of_ble_eq_true rfl) dX4_conkersWithHeir_7 (fun r2 T3 => ?_)
  refine g_isub h dX4_conkersWithHeir_10 ?_
  exact g_iret hR rfl dX4_conkersWithHeir_11
theorem n_X4_takeVictoriesOfSmashed_4 : ∀ w ∈ wsX40, w ∈ wsX4_takeVictoriesOfSmashed := by decide +kernel
set_option maxHeartbeats 4000000 in
set_option maxRecDepth 100000 in
theorem c_X4_takeVictoriesOfSmashed (l : Launch) (ω : Wd) (k : Nat) (hk : kS k) (M0 : Mm) (T : Tm) (a1 : Int32) {r : Int32} {T' : Tm} (hm : m_X4_takeVictoriesOfSmashed a1 T = some (r, T')) : MI l yX4_takeVictoriesOfSmashed wsX4_takeVictoriesOfSmashed ⟨0, 0, 0, 0⟩ ω LC [.ref (th ω k 0), .int a1] (uM M0 k T) r (uM M0 k T') := by
  refine met_i (cc := cX4_takeVictoriesOfSmashed) (maxL := 3) (ty := .int) (by decide +kernel) rfl (Nat.le_of_ble_eq_true rfl) LC_nd ?_
  intro Γ h hR ht
  suffices K : Gq Γ ω LC (uM M0 k) 0 [(0, .ref (th ω k 0)), (1, .int a1)] [] T (m_X4_takeVictoriesOfSmashed a1 T) from K (r, T') hm ht
  unfold m_X4_takeVictoriesOfSmashed
  refine g_aload_n h 0 dX4_takeVictoriesOfSmashed_0 rfl rfl ?_
  refine g_getR h (index := 30) (j := 6) (inS hk 0 (by decide)) (C := RX4) (T := TX4) (N := 13) rfl n_X4_takeVictoriesOfSmashed_4 (by decide) rfl (by decide +kernel) dX4_takeVictoriesOfSmashed_1 ?_
  refine g_iload_n h 1 dX4_takeVictoriesOfSmashed_4 rfl rfl ?_
  refine g_iald h (v := T 7 a1.toNatClampNeg) (uMr M0 k _ _ _) (inS hk 7 (by decide)) dX4_takeVictoriesOfSmashed_5 ?_
  refine g_ni (fun v1 => ?_)
  refine g_istore_n h rfl (lv' := [(2, .int v1), (0, .ref (th ω k 0)), (1, .int a1)]) dX4_takeVictoriesOfSmashed_6 (by decide) [0, 1, 2] rfl ?_
  refine g_aload_n h 1 dX4_takeVictoriesOfSmashed_7 rfl rfl ?_
  refine g_getR h (index := 30) (j := 6) (inS hk 0 (by decide)) (C := RX4) (T := TX4) (N := 13) rfl n_X4_takeVictoriesOfSmashed_4 (by decide) rfl (by decide +kernel) dX4_takeVictoriesOfSmashed_8 ?_
  refine g_iload_n h 2 dX4_takeVictoriesOfSmashed_11 rfl rfl ?_
  refine g_iconst h 0 dX4_takeVictoriesOfSmashed_12 (by decide) ?_
  refine g_iast h (x' := wT T 7 a1.toNatClampNeg 0) (wM_uM M0 k _ _ _ _).symm (inS hk 7 (by decide)) dX4_takeVictoriesOfSmashed_13 ?_
  refine g_nm (fun T2 => ?_)
  refine g_aload_n h 1 dX4_takeVictoriesOfSmashed_14 rfl rfl ?_
  refine g_getR h (index := 33) (j := 7) (inS hk 0 (by decide)) (C := RX4) (T := TX4) (N := 13) rfl n_X4_takeVictoriesOfSmashed_4 (by decide) rfl (by decide +kernel) dX4_takeVictoriesOfSmashed_15 ?_
  refine g_iload_n h 2 dX4_takeVictoriesOfSmashed_18 rfl rfl ?_
  refine g_bipush h (-5) dX4_takeVictoriesOfSmashed_19 (by decide) ?_
  refine g_iast h (x' := wT T2 8 a1.toNatClampNeg (-5)) (wM_uM M0 k _ _ _ _).symm (inS hk 8 (by decide)) dX4_takeVictoriesOfSmashed_21 ?_
  refine g_nm (fun T3 => ?_)
  refine g_aload_n h 1 dX4_takeVictoriesOfSmashed_22 rfl rfl ?_
  refine g_getR h (index := 36) (j := 8) (inS hk 0 (by decide)) (C := RX4) (T := TX4) (N := 13) rfl n_X4_takeVictoriesOfSmashed_4 (by decide) rfl (by decide +kernel) dX4_takeVictoriesOfSmashed_23 ?_
  refine g_iload_n h 2 dX4_takeVictoriesOfSmashed_26 rfl rfl ?_
  refine g_iconst h 2 dX4_takeVictoriesOfSmashed_27 (by decide) ?_
  refine g_iast h (x' := wT T3 9 a1.toNatClampNeg 2) (wM_uM M0 k _ _ _ _).symm (inS hk 9 (by decide)) dX4_takeVictoriesOfSmashed_28 ?_
  refine g_nm (fun T4 => ?_)
  refine g_iload_n h 0 dX4_takeVictoriesOfSmashed_29 rfl rfl ?_
  exact g_iret hR rfl dX4_takeVictoriesOfSmashed_30
theorem n_X4_crush_4 : ∀ w ∈ wsX40, w ∈ wsX4_crush := by decide +kernel
set_option maxHeartbeats 4000000 in
set_option maxRecDepth 100000 in
theorem c_X4_crush (l : Launch) (ω : Wd) (k : Nat) (hk : kS k) (M0 : Mm) (T : Tm) (a1 : Int32) {r : Int32} {T' : Tm} (hm : m_X4_crush a1 T = some (r, T')) : MI l yX4_crush wsX4_crush ⟨1, 0, 0, 22⟩ ω LC [.ref (th ω k 0), .int a1] (uM M0 k T) r (uM M0 k T') := by
  refine met_i (cc := cX4_crush) (maxL := 3) (ty := .int) (by decide +kernel) rfl (Nat.le_of_ble_eq_true rfl) LC_nd ?_
  intro Γ h hR ht
  suffices K : Gq Γ ω LC (uM M0 k) 0 [(0, .ref (th ω k 0)), (1, .int a1)] [] T (m_X4_crush a1 T) from K (r, T') hm ht
  unfold m_X4_crush
  refine g_aload_n h 0 dX4_crush_0 rfl rfl ?_
  refine g_iload_n h 1 dX4_crush_1 rfl rfl ?_
  refine g_callI h (As := [.int a1]) (fun t => t) (fun r t hG => c_X4_takeVictoriesOfSmashed l ω k hk M0 _ a1 hG) (inS hk 0 (by decide)) (C := RX4) (T := TX4) (N := 13) rfl 1 rfl gX4_crush_X4_takeVictoriesOfSmashed rfl rfl rfl (by decide +kernel) (by decide) (st0 := _) rfl (Nat.le_of_ble_eq_true rfl) dX4_crush_2 (fun r1 T2 => ?_)
  refine g_istore_n h rfl (lv' := [(2, .int r1), (0, .ref (th ω k 0)), (1, .int a1)]) dX4_crush_5 (by decide) [0, 1, 2] rfl ?_
  refine g_aload_n h 1 dX4_crush_6 rfl rfl ?_
  refine g_dup h dX4_crush_7 rfl ?_
  refine g_getI h (v := T2 0 11) (uMr M0 k _ _ _) (index := 46) (j := 11) (inS hk 0 (by decide)) (C := RX4) (T := TX4) (N := 13) rfl n_X4_crush_4 (by decide) rfl (by decide +kernel) dX4_crush_8 ?_
  refine g_ni (fun v3 => ?_)
  refine g_iload_n h 0 dX4_crush_11 rfl rfl ?_
  refine g_iadd h dX4_crush_12 ?_
  refine g_putI h (x' := wT T2 0 11 (v3 + r1)) (wM_uM M0 k _ _ _ _).symm (index := 46) (j := 11) (inS hk 0 (by decide)) (C := RX4) (T := TX4) (N := 13) rfl n_X4_crush_4 tyX4_ok nmX4 (by decide) rfl (by decide +kernel) rfl (ty := .int) (by decide +kernel) rfl rfl dX4_crush_13 ?_
  refine g_nm (fun T4 => ?_)
  refine g_iload_n h 0 dX4_crush_16 rfl rfl ?_
  exact g_iret hR rfl dX4_crush_17
theorem n_X4_fallIfWorn_4 : ∀ w ∈ wsX40, w ∈ wsX4_fallIfWorn := by decide +kernel
set_option maxHeartbeats 4000000 in
set_option maxRecDepth 100000 in
theorem c_X4_fallIfWorn (l : Launch) (ω : Wd) (k : Nat) (hk : kS k) (M0 : Mm) (T : Tm) (a1 : Int32) {r : Int32} {T' : Tm} (hm : m_X4_fallIfWorn a1 T = some (r, T')) : MV l yX4_fallIfWorn wsX4_fallIfWorn ⟨0, 0, 0, 0⟩ ω LC [.ref (th ω k 0), .int a1] (uM M0 k T) (uM M0 k T') := by
  refine met_v (cc := cX4_fallIfWorn) (maxL := 2) (r := r) (by decide +kernel) rfl (Nat.le_of_ble_eq_true rfl) LC_nd ?_
  intro Γ h hR ht
  suffices K : Gq Γ ω LC (uM M0 k) 0 [(0, .ref (th ω k 0)), (1, .int a1)] [] T (m_X4_fallIfWorn a1 T) from K (r, T') hm ht
  unfold m_X4_fallIfWorn
  refine g_aload_n h 0 dX4_fallIfWorn_0 rfl rfl ?_
  refine g_getR h (index := 36) (j := 8) (inS hk 0 (by decide)) (C := RX4) (T := TX4) (N := 13) rfl n_X4_fallIfWorn_4 (by decide) rfl (by decide +kernel) dX4_fallIfWorn_1 ?_
  refine g_iload_n h 1 dX4_fallIfWorn_4 rfl rfl ?_
  refine g_iald h (v := T 9 a1.toNatClampNeg) (uMr M0 k _ _ _) (inS hk 9 (by decide)) dX4_fallIfWorn_5 ?_
  refine g_ni (fun v1 => ?_)
  refine g_if_ne h 27 dX4_fallIfWorn_6 (by decide) (fun hc2 => ?_) (fun hc2 => ?_)
  · skip
    refine g_aload_n h 0 dX4_fallIfWorn_9 rfl rfl ?_
    refine g_getR h (index := 27) (j := 5) (inS hk 0 (by decide)) (C := RX4) (T := TX4) (N := 13) rfl n_X4_fallIfWorn_4 (by decide) rfl (by decide +kernel) dX4_fallIfWorn_10 ?_
    refine g_iload_n h 1 dX4_fallIfWorn_13 rfl rfl ?_
    refine g_iald h (v := T 6 a1.toNatClampNeg) (uMr M0 k _ _ _) (inS hk 6 (by decide)) dX4_fallIfWorn_14 ?_
    refine g_ni (fun v3 => ?_)
    refine g_bipush h 20 dX4_fallIfWorn_15 (by decide) ?_
    refine g_icmp_ne h 27 dX4_fallIfWorn_17 (by decide) (fun hc4 => ?_) (fun hc4 => ?_)
    · skip
      refine g_aload_n h 0 dX4_fallIfWorn_20 rfl rfl ?_
      refine g_getR h (index := 36) (j := 8) (inS hk 0 (by decide)) (C := RX4) (T := TX4) (N := 13) rfl n_X4_fallIfWorn_4 (by decide) rfl (by decide +kernel) dX4_fallIfWorn_21 ?_
      refine g_iload_n h 1 dX4_fallIfWorn_24 rfl rfl ?_
      refine g_iconst h 1 dX4_fallIfWorn_25 (by decide) ?_
      refine g_iast h (x' := wT T 9 a1.toNatClampNeg 1) (wM_uM M0 k _ _ _ _).symm (inS hk 9 (by decide)) dX4_fallIfWorn_26 ?_
      refine g_nm (fun T5 => ?_)
      exact g_vret hR dX4_fallIfWorn_27
    · skip
      exact g_vret hR dX4_fallIfWorn_27
  · skip
    exact g_vret hR dX4_fallIfWorn_27
theorem n_X4_fallenError_4 : ∀ w ∈ wsX40, w ∈ wsX4_fallenError := by decide +kernel
set_option maxHeartbeats 4000000 in
set_option maxRecDepth 100000 in
theorem c_X4_fallenError (l : Launch) (ω : Wd) (k : Nat) (hk : kS k) (M0 : Mm) (T : Tm) (a1 : Int32) {r : Int32} {T' : Tm} (hm : m_X4_fallenError a1 T = some (r, T')) : MI l yX4_fallenError wsX4_fallenError ⟨2, 0, 0, 43⟩ ω LC [.ref (th ω k 0), .int a1] (uM M0 k T) r (uM M0 k T') := by
  refine met_i (cc := cX4_fallenError) (maxL := 2) (ty := .int) (by decide +kernel) rfl (Nat.le_of_ble_eq_true rfl) LC_nd ?_
  intro Γ h hR ht
  suffices K : Gq Γ ω LC (uM M0 k) 0 [(0, .ref (th ω k 0)), (1, .int a1)] [] T (m_X4_fallenError a1 T) from K (r, T') hm ht
  unfold m_X4_fallenError
  refine g_aload_n h 0 dX4_fallenError_0 rfl rfl ?_
  refine g_iload_n h 1 dX4_fallenError_1 rfl rfl ?_
  refine g_callI h (As := [.int a1]) (fun t => t) (fun r t hG => c_X4_hasConker l ω k hk M0 _ a1 hG) (inS hk 0 (by decide)) (C := RX4) (T := TX4) (N := 13) rfl 1 rfl gX4_fallenError_X4_hasConker rfl rfl rfl (by decide +kernel) (by decide) (st0 := _) rfl (Nat.le_of_ble_eq_true rfl) dX4_fallenError_2 (fun r1 T2 => ?_)
  refine g_if_ne h 10 dX4_fallenError_5 (by decide) (fun hc3 => ?_) (fun hc3 => ?_)
  · skip
    refine g_iconst h (-1) dX4_fallenError_8 (by decide) ?_
    exact g_iret hR rfl dX4_fallenError_9
  · skip
    refine g_aload_n h 0 dX4_fallenError_10 rfl rfl ?_
    refine g_getR h (index := 36) (j := 8) (inS hk 0 (by decide)) (C := RX4) (T := TX4) (N := 13) rfl n_X4_fallenError_4 (by decide) rfl (by decide +kernel) dX4_fallenError_11 ?_
    refine g_iload_n h 1 dX4_fallenError_14 rfl rfl ?_
    refine g_iald h (v := T2 9 a1.toNatClampNeg) (uMr M0 k _ _ _) (inS hk 9 (by decide)) dX4_fallenError_15 ?_
    refine g_ni (fun v4 => ?_)
    refine g_iconst h 1 dX4_fallenError_16 (by decide) ?_
    refine g_icmp_ne h 24 dX4_fallenError_17 (by decide) (fun hc5 => ?_) (fun hc5 => ?_)
    · skip
      refine g_iconst h 0 dX4_fallenError_20 (by decide) ?_
      refine g_goto h (tgt := 26) dX4_fallenError_21 (by decide) ?_
      exact g_iret hR rfl dX4_fallenError_26
    · skip
      refine g_bipush h (-4) dX4_fallenError_24 (by decide) ?_
      exact g_iret hR rfl dX4_fallenError_26
set_option maxHeartbeats 4000000 in
set_option maxRecDepth 100000 in
theorem c_X4_quotient (l : Launch) (ω : Wd)  (M : Mm) (a0 : Int32) (a1 : Int32) {r : Int32} {M' : Mm} (hm : m_X4_quotient a0 a1 M = some (r, M')) : MI l yX4_quotient wsX4_quotient ⟨0, 0, 0, 0⟩ ω L00 [.int a0, .int a1] M r M' := by
  refine met_i (cc := cX4_quotient) (maxL := 2) (ty := .int) (by decide +kernel) rfl (Nat.le_of_ble_eq_true rfl) L00_nd ?_
  intro Γ h hR ht
  suffices K : Gq Γ ω L00 eI 0 [(0, .int a0), (1, .int a1)] [] M (m_X4_quotient a0 a1 M) from K (r, M') hm ht
  unfold m_X4_quotient
  refine g_iload_n h 1 dX4_quotient_0 rfl rfl ?_
  refine g_iconst h 1 dX4_quotient_1 (by decide) ?_
  refine g_icmp_ge h 9 dX4_quotient_2 (by decide) (fun hc1 => ?_) (fun hc1 => ?_)
  · skip
    refine g_iload_n h 0 dX4_quotient_9 rfl rfl ?_
    refine g_iload_n h 1 dX4_quotient_10 rfl rfl ?_
    refine g_idiv h dX4_quotient_11 ?_
    exact g_iret hR rfl dX4_quotient_12
  · skip
    refine g_iconst h 0 dX4_quotient_5 (by decide) ?_
    refine g_goto h (tgt := 12) dX4_quotient_6 (by decide) ?_
    exact g_iret hR rfl dX4_quotient_12
