/-! WALKS (written by wip/whole/gen.py): X6_fault, X6_give, X6_strikeError, X6_ifStruck, X6_isInLine, X6_leastSwing, X6_line, X6_lines, X6_mendError, X6_mend, X6_stampError, X6_orderError, X6_player, X6_ranked, X6_restore, X6_round -/
theorem n_X6_fault_6 : ∀ w ∈ wsX60, w ∈ wsX6_fault := by decide +kernel
set_option maxHeartbeats 4000000 in
set_option maxRecDepth 100000 in
theorem b_X6_fault_7 {Γ : Cx} {l : Launch} {ω : Wd} {M0 : Mm}  (h : CxOk Γ l ⟨4, 0, 0, 86⟩ 2 ω LM cX6_fault yX6_fault.cls wsX6_fault) (hR : RetI Γ ω LM cX6_fault .int) : ∀ (n : Nat) (b1 : Int32) (T : Tm), Gq Γ ω LM (uM M0 0) 7 [(0, .ref (th ω 0 0)), (1, .int b1)] [] T (m_X6_fault_7 n b1 T) := by
  intro n
  induction n with
  | zero =>
    intro b1 T
    rw [m_X6_fault_7.eq_1]
    exact g_none
  | succ n ih =>
    intro b1 T
    rw [m_X6_fault_7.eq_2]
    refine g_iload_n h 1 dX6_fault_7 rfl rfl ?_
    refine g_if_eq h 33 dX6_fault_8 (by decide) (fun hc1 => ?_) (fun hc1 => ?_)
    · skip
      refine g_aload_n h 0 dX6_fault_33 rfl rfl ?_
      refine g_getI h (v := T 0 8) (uMr M0 0 _ _ _) (index := 110) (j := 8) iM_0_0 (C := RX6) (T := TX6) (N := 13) rfl n_X6_fault_6 (by decide) rfl (by decide +kernel) dX6_fault_34 ?_
      refine g_ni (fun v2 => ?_)
      refine g_aload_n h 0 dX6_fault_37 rfl rfl ?_
      refine g_getI h (v := T 0 4) (uMr M0 0 _ _ _) (index := 107) (j := 4) iM_0_0 (C := RX6) (T := TX6) (N := 13) rfl n_X6_fault_6 (by decide) rfl (by decide +kernel) dX6_fault_38 ?_
      refine g_ni (fun v3 => ?_)
      refine g_icmp_ne h 49 dX6_fault_41 (by decide) (fun hc4 => ?_) (fun hc4 => ?_)
      · skip
        refine g_bipush h (-5) dX6_fault_44 (by decide) ?_
        refine g_goto h (tgt := 53) dX6_fault_46 (by decide) ?_
        exact g_iret hR rfl dX6_fault_53
      · skip
        refine g_aload_n h 0 dX6_fault_49 rfl rfl ?_
        refine g_getI h (v := T 0 8) (uMr M0 0 _ _ _) (index := 110) (j := 8) iM_0_0 (C := RX6) (T := TX6) (N := 13) rfl n_X6_fault_6 (by decide) rfl (by decide +kernel) dX6_fault_50 ?_
        refine g_ni (fun v5 => ?_)
        exact g_iret hR rfl dX6_fault_53
    · skip
      refine g_aload_n h 0 dX6_fault_11 rfl rfl ?_
      refine g_callI h (As := []) (fun t => t) (fun r t hG => c_X6_readsOrder l ω M0 _ hG) iM_0_0 (C := RX6) (T := TX6) (N := 13) rfl 0 rfl gX6_fault_X6_readsOrder rfl rfl rfl (by decide +kernel) (by decide) (st0 := _) rfl (Nat.le_of_ble_eq_true rfl) dX6_fault_12 (fun r6 T7 => ?_)
      refine g_if_ne h 23 dX6_fault_15 (by decide) (fun hc8 => ?_) (fun hc8 => ?_)
      · skip
        refine g_aload_n h 0 dX6_fault_18 rfl rfl ?_
        refine g_getI h (v := T7 0 8) (uMr M0 0 _ _ _) (index := 110) (j := 8) iM_0_0 (C := RX6) (T := TX6) (N := 13) rfl n_X6_fault_6 (by decide) rfl (by decide +kernel) dX6_fault_19 ?_
        refine g_ni (fun v9 => ?_)
        exact g_iret hR rfl dX6_fault_22
      · skip
        refine g_aload_n h 0 dX6_fault_23 rfl rfl ?_
        refine g_bipush h 44 dX6_fault_24 (by decide) ?_
        refine g_callI h (As := [.int 44]) (fun t => t) (fun r t hG => c_X6_takes l ω M0 _ 44 hG) iM_0_0 (C := RX6) (T := TX6) (N := 13) rfl 1 rfl gX6_fault_X6_takes rfl rfl rfl (by decide +kernel) (by decide) (st0 := _) rfl (Nat.le_of_ble_eq_true rfl) dX6_fault_26 (fun r10 T11 => ?_)
        refine g_istore_n h rfl (lv' := [(1, .int r10), (0, .ref (th ω 0 0))]) dX6_fault_29 (by decide) [0, 1] rfl ?_
        refine g_goto h (tgt := 7) dX6_fault_30 (by decide) ?_
        refine g_sub (lv' := [(0, .ref (th ω 0 0)), (1, .int r10)]) [1, 0] rfl ?_
        exact ih _ _
set_option maxHeartbeats 4000000 in
set_option maxRecDepth 100000 in
theorem c_X6_fault (l : Launch) (ω : Wd)  (M0 : Mm) (T : Tm) {r : Int32} {T' : Tm} (hm : m_X6_fault T = some (r, T')) : MI l yX6_fault wsX6_fault ⟨4, 0, 0, 86⟩ ω LM [.ref (th ω 0 0)] (uM M0 0 T) r (uM M0 0 T') := by
  refine met_i (cc := cX6_fault) (maxL := 2) (ty := .int) (by decide +kernel) rfl (Nat.le_of_ble_eq_true rfl) LM_nd ?_
  intro Γ h hR ht
  suffices K : Gq Γ ω LM (uM M0 0) 0 [(0, .ref (th ω 0 0))] [] T (m_X6_fault T) from K (r, T') hm ht
  unfold m_X6_fault
  refine g_aload_n h 0 dX6_fault_0 rfl rfl ?_
  refine g_iconst h 0 dX6_fault_1 (by decide) ?_
  refine g_putI h (x' := wT T 0 8 0) (wM_uM M0 0 _ _ _ _).symm (index := 110) (j := 8) iM_0_0 (C := RX6) (T := TX6) (N := 13) rfl n_X6_fault_6 tyX6_ok nmX6 (by decide) rfl (by decide +kernel) rfl (ty := .int) (by decide +kernel) rfl rfl dX6_fault_2 ?_
  refine g_nm (fun T1 => ?_)
  refine g_iconst h 1 dX6_fault_5 (by decide) ?_
  refine g_istore_n h rfl (lv' := [(1, .int 1), (0, .ref (th ω 0 0))]) dX6_fault_6 (by decide) [0, 1] rfl ?_
  refine g_sub (lv' := [(0, .ref (th ω 0 0)), (1, .int 1)]) [1, 0] rfl ?_
  exact b_X6_fault_7 h hR fu _ _
theorem n_X6_give_6 : ∀ w ∈ wsX60, w ∈ wsX6_give := by decide +kernel
set_option maxHeartbeats 4000000 in
set_option maxRecDepth 100000 in
theorem c_X6_give (l : Launch) (ω : Wd)  (M0 : Mm) (T : Tm) (a1 : Int32) (a2 : Int32) {r : Int32} {T' : Tm} (hm : m_X6_give a1 a2 T = some (r, T')) : MI l yX6_give wsX6_give ⟨2, 0, 0, 44⟩ ω LM [.ref (th ω 0 0), .int a1, .int a2] (uM M0 0 T) r (uM M0 0 T') := by
  refine met_i (cc := cX6_give) (maxL := 3) (ty := .int) (by decide +kernel) rfl (Nat.le_of_ble_eq_true rfl) LM_nd ?_
  intro Γ h hR ht
  suffices K : Gq Γ ω LM (uM M0 0) 0 [(0, .ref (th ω 0 0)), (1, .int a1), (2, .int a2)] [] T (m_X6_give a1 a2 T) from K (r, T') hm ht
  unfold m_X6_give
  refine g_iload_n h 1 dX6_give_0 rfl rfl ?_
  refine g_callP h (As := [.int a1]) (fun r t hG => c_X6_isPlayer l ω M00 a1 hG) 1 rfl gX6_give_X6_isPlayer rfl rfl rfl (by decide +kernel) (by decide) (st0 := _) rfl (Nat.le_of_ble_eq_true rfl) dX6_give_1 (fun r1 => ?_)
  refine g_if_ne h 9 dX6_give_4 (by decide) (fun hc2 => ?_) (fun hc2 => ?_)
  · skip
    refine g_iconst h (-1) dX6_give_7 (by decide) ?_
    exact g_iret hR rfl dX6_give_8
  · skip
    refine g_iload_n h 2 dX6_give_9 rfl rfl ?_
    refine g_iconst h 1 dX6_give_10 (by decide) ?_
    refine g_bipush h 9 dX6_give_11 (by decide) ?_
    refine g_callP h (As := [.int a2, .int 1, .int 9]) (fun r t hG => c_X6_in l ω M00 a2 1 9 hG) 3 rfl gX6_give_X6_in rfl rfl rfl (by decide +kernel) (by decide) (st0 := _) rfl (Nat.le_of_ble_eq_true rfl) dX6_give_13 (fun r3 => ?_)
    refine g_if_ne h 22 dX6_give_16 (by decide) (fun hc4 => ?_) (fun hc4 => ?_)
    · skip
      refine g_bipush h (-2) dX6_give_19 (by decide) ?_
      exact g_iret hR rfl dX6_give_21
    · skip
      refine g_aload_n h 0 dX6_give_22 rfl rfl ?_
      refine g_getR h (index := 7) (j := 0) iM_0_0 (C := RX6) (T := TX6) (N := 13) rfl n_X6_give_6 (by decide) rfl (by decide +kernel) dX6_give_23 ?_
      refine g_iconst h 4 dX6_give_26 (by decide) ?_
      refine g_iconst h 2 dX6_give_27 (by decide) ?_
      refine g_iload_n h 1 dX6_give_28 rfl rfl ?_
      refine g_imul h dX6_give_29 ?_
      refine g_iadd h dX6_give_30 ?_
      refine g_iald h (v := T 1 ((4 + (2 * a1)).toNatClampNeg)) (uMr M0 0 _ _ _) iM_0_1 dX6_give_31 ?_
      refine g_ni (fun v5 => ?_)
      refine g_iload_n h 2 dX6_give_32 rfl rfl ?_
      refine g_iadd h dX6_give_33 ?_
      refine g_bipush h 20 dX6_give_34 (by decide) ?_
      refine g_icmp_le h 42 dX6_give_36 (by decide) (fun hc6 => ?_) (fun hc6 => ?_)
      · skip
        refine g_aload_n h 0 dX6_give_42 rfl rfl ?_
        refine g_callV h (As := []) (fun t => t) (fun r t hG => c_X6_records l ω M0 _ hG) iM_0_0 (C := RX6) (T := TX6) (N := 13) rfl 0 rfl gX6_give_X6_records rfl rfl rfl (by decide +kernel) (by decide) (st0 := _) rfl (Nat.le_of_ble_eq_true rfl) dX6_give_43 (fun r7 T8 => ?_)
        refine g_aload_n h 0 dX6_give_46 rfl rfl ?_
        refine g_getR h (index := 7) (j := 0) iM_0_0 (C := RX6) (T := TX6) (N := 13) rfl n_X6_give_6 (by decide) rfl (by decide +kernel) dX6_give_47 ?_
        refine g_iconst h 4 dX6_give_50 (by decide) ?_
        refine g_iconst h 2 dX6_give_51 (by decide) ?_
        refine g_iload_n h 1 dX6_give_52 rfl rfl ?_
        refine g_imul h dX6_give_53 ?_
        refine g_iadd h dX6_give_54 ?_
        refine g_dup2 h dX6_give_55 rfl rfl ?_
        refine g_iald h (v := T8 1 ((4 + (2 * a1)).toNatClampNeg)) (uMr M0 0 _ _ _) iM_0_1 dX6_give_56 ?_
        refine g_ni (fun v9 => ?_)
        refine g_iload_n h 2 dX6_give_57 rfl rfl ?_
        refine g_iadd h dX6_give_58 ?_
        refine g_iast h (x' := wT T8 1 ((4 + (2 * a1)).toNatClampNeg) (v9 + a2)) (wM_uM M0 0 _ _ _ _).symm iM_0_1 dX6_give_59 ?_
        refine g_nm (fun T10 => ?_)
        refine g_aload_n h 0 dX6_give_60 rfl rfl ?_
        refine g_getR h (index := 7) (j := 0) iM_0_0 (C := RX6) (T := TX6) (N := 13) rfl n_X6_give_6 (by decide) rfl (by decide +kernel) dX6_give_61 ?_
        refine g_iconst h 4 dX6_give_64 (by decide) ?_
        refine g_iconst h 2 dX6_give_65 (by decide) ?_
        refine g_iload_n h 1 dX6_give_66 rfl rfl ?_
        refine g_imul h dX6_give_67 ?_
        refine g_iadd h dX6_give_68 ?_
        refine g_iald h (v := T10 1 ((4 + (2 * a1)).toNatClampNeg)) (uMr M0 0 _ _ _) iM_0_1 dX6_give_69 ?_
        refine g_ni (fun v11 => ?_)
        exact g_iret hR rfl dX6_give_70
      · skip
        refine g_bipush h (-3) dX6_give_39 (by decide) ?_
        exact g_iret hR rfl dX6_give_41
set_option maxHeartbeats 4000000 in
set_option maxRecDepth 100000 in
theorem c_X6_strikeError (l : Launch) (ω : Wd)  (M0 : Mm) (T : Tm) (a1 : Int32) (a2 : Int32) (a3 : Int32) {r : Int32} {T' : Tm} (hm : m_X6_strikeError a1 a2 a3 T = some (r, T')) : MI l yX6_strikeError wsX6_strikeError ⟨3, 0, 0, 67⟩ ω LM [.ref (th ω 0 0), .int a1, .int a2, .int a3] (uM M0 0 T) r (uM M0 0 T') := by
  refine met_i (cc := cX6_strikeError) (maxL := 4) (ty := .int) (by decide +kernel) rfl (Nat.le_of_ble_eq_true rfl) LM_nd ?_
  intro Γ h hR ht
  suffices K : Gq Γ ω LM (uM M0 0) 0 [(0, .ref (th ω 0 0)), (1, .int a1), (2, .int a2), (3, .int a3)] [] T (m_X6_strikeError a1 a2 a3 T) from K (r, T') hm ht
  unfold m_X6_strikeError
  refine g_aload_n h 0 dX6_strikeError_0 rfl rfl ?_
  refine g_iload_n h 1 dX6_strikeError_1 rfl rfl ?_
  refine g_iload_n h 2 dX6_strikeError_2 rfl rfl ?_
  refine g_iload_n h 3 dX6_strikeError_3 rfl rfl ?_
  refine g_iconst h 1 dX6_strikeError_4 (by decide) ?_
  refine g_bipush h 9 dX6_strikeError_5 (by decide) ?_
  refine g_callP h (As := [.int a3, .int 1, .int 9]) (fun r t hG => c_X6_in l ω M00 a3 1 9 hG) 3 rfl gX6_strikeError_X6_in rfl rfl rfl (by decide +kernel) (by decide) (st0 := _) rfl (Nat.le_of_ble_eq_true rfl) dX6_strikeError_7 (fun r1 => ?_)
  refine g_callI h (As := [.int a1, .int a2, .int r1]) (fun t => t) (fun r t hG => c_X6_pairError l ω M0 _ a1 a2 r1 hG) iM_0_0 (C := RX6) (T := TX6) (N := 13) rfl 3 rfl gX6_strikeError_X6_pairError rfl rfl rfl (by decide +kernel) (by decide) (st0 := _) rfl (Nat.le_of_ble_eq_true rfl) dX6_strikeError_10 (fun r2 T3 => ?_)
  exact g_iret hR rfl dX6_strikeError_13
set_option maxHeartbeats 4000000 in
set_option maxRecDepth 100000 in
theorem c_X6_ifStruck (l : Launch) (ω : Wd)  (M0 : Mm) (T : Tm) (a1 : Int32) (a2 : Int32) (a3 : Int32) {r : Int32} {T' : Tm} (hm : m_X6_ifStruck a1 a2 a3 T = some (r, T')) : MI l yX6_ifStruck wsX6_ifStruck ⟨4, 0, 0, 90⟩ ω LM [.ref (th ω 0 0), .int a1, .int a2, .int a3] (uM M0 0 T) r (uM M0 0 T') := by
  refine met_i (cc := cX6_ifStruck) (maxL := 5) (ty := .int) (by decide +kernel) rfl (Nat.le_of_ble_eq_true rfl) LM_nd ?_
  intro Γ h hR ht
  suffices K : Gq Γ ω LM (uM M0 0) 0 [(0, .ref (th ω 0 0)), (1, .int a1), (2, .int a2), (3, .int a3)] [] T (m_X6_ifStruck a1 a2 a3 T) from K (r, T') hm ht
  unfold m_X6_ifStruck
  refine g_aload_n h 0 dX6_ifStruck_0 rfl rfl ?_
  refine g_iload_n h 1 dX6_ifStruck_1 rfl rfl ?_
  refine g_iload_n h 2 dX6_ifStruck_2 rfl rfl ?_
  refine g_iload_n h 3 dX6_ifStruck_3 rfl rfl ?_
  refine g_callI h (As := [.int a1, .int a2, .int a3]) (fun t => t) (fun r t hG => c_X6_strikeError l ω M0 _ a1 a2 a3 hG) iM_0_0 (C := RX6) (T := TX6) (N := 13) rfl 3 rfl gX6_ifStruck_X6_strikeError rfl rfl rfl (by decide +kernel) (by decide) (st0 := _) rfl (Nat.le_of_ble_eq_true rfl) dX6_ifStruck_4 (fun r1 T2 => ?_)
  refine g_istore h (lv' := [(4, .int r1), (0, .ref (th ω 0 0)), (1, .int a1), (2, .int a2), (3, .int a3)]) dX6_ifStruck_7 (by decide) [0, 1, 2, 3, 4] rfl ?_
  refine g_iload h 0 dX6_ifStruck_9 rfl ?_
  refine g_if_eq h 17 dX6_ifStruck_11 (by decide) (fun hc3 => ?_) (fun hc3 => ?_)
  · skip
    refine g_aload_n h 1 dX6_ifStruck_17 rfl rfl ?_
    refine g_iconst h 0 dX6_ifStruck_18 (by decide) ?_
    refine g_bipush h 7 dX6_ifStruck_19 (by decide) ?_
    refine g_callV h (As := [.int 0, .int 7]) (fun t => t) (fun r t hG => c_X6_copies l ω M0 _ 0 7 hG) iM_0_0 (C := RX6) (T := TX6) (N := 13) rfl 2 rfl gX6_ifStruck_X6_copies rfl rfl rfl (by decide +kernel) (by decide) (st0 := _) rfl (Nat.le_of_ble_eq_true rfl) dX6_ifStruck_21 (fun r4 T5 => ?_)
    refine g_aload_n h 1 dX6_ifStruck_24 rfl rfl ?_
    refine g_sipush h 1792 dX6_ifStruck_25 (by decide) ?_
    refine g_iload_n h 2 dX6_ifStruck_28 rfl rfl ?_
    refine g_iload_n h 3 dX6_ifStruck_29 rfl rfl ?_
    refine g_iload_n h 4 dX6_ifStruck_30 rfl rfl ?_
    refine g_callI h (As := [.int 1792, .int a1, .int a2, .int a3]) (fun t => t) (fun r t hG => c_X6_strikes l ω M0 _ 1792 a1 a2 a3 hG) iM_0_0 (C := RX6) (T := TX6) (N := 13) rfl 4 rfl gX6_ifStruck_X6_strikes rfl rfl rfl (by decide +kernel) (by decide) (st0 := _) rfl (Nat.le_of_ble_eq_true rfl) dX6_ifStruck_31 (fun r6 T7 => ?_)
    exact g_iret hR rfl dX6_ifStruck_34
  · skip
    refine g_iload h 0 dX6_ifStruck_14 rfl ?_
    exact g_iret hR rfl dX6_ifStruck_16
theorem n_X6_isInLine_6 : ∀ w ∈ wsX60, w ∈ wsX6_isInLine := by decide +kernel
set_option maxHeartbeats 4000000 in
set_option maxRecDepth 100000 in
theorem b_X6_isInLine_39 {Γ : Cx} {l : Launch} {ω : Wd} {M0 : Mm}  (h : CxOk Γ l ⟨1, 0, 0, 21⟩ 5 ω LM cX6_isInLine yX6_isInLine.cls wsX6_isInLine) (hR : RetI Γ ω LM cX6_isInLine .boolean) (κ17 : Int32 → Int32 → Int32 → Tm → Option (Int32 × Tm)) (hκ17 : ∀ (b1 : Int32) (b3 : Int32) (b4 : Int32) (T : Tm), Gq Γ ω LM (uM M0 0) 17 [(0, .ref (th ω 0 0)), (1, .int b1), (3, .int b3), (4, .int b4)] [] T (κ17 b1 b3 b4 T)) : ∀ (b1 : Int32) (b4 : Int32) (s0 : Int32) (T : Tm), Gq Γ ω LM (uM M0 0) 39 [(0, .ref (th ω 0 0)), (1, .int b1), (4, .int b4)] [.int s0] T (m_X6_isInLine_39 κ17 b1 b4 s0 T) := by
  intro b1 b4 s0 T
  unfold m_X6_isInLine_39
  refine g_istore_n h rfl (lv' := [(3, .int s0), (0, .ref (th ω 0 0)), (1, .int b1), (4, .int b4)]) dX6_isInLine_39 (by decide) [0, 1, 2, 3] rfl ?_
  refine g_aload_n h 1 dX6_isInLine_40 rfl rfl ?_
  refine g_getR h (index := 7) (j := 0) iM_0_0 (C := RX6) (T := TX6) (N := 13) rfl n_X6_isInLine_6 (by decide) rfl (by decide +kernel) dX6_isInLine_41 ?_
  refine g_iconst h 0 dX6_isInLine_44 (by decide) ?_
  refine g_iload h 3 dX6_isInLine_45 rfl ?_
  refine g_callP h (As := [.int 0, .int b4]) (fun r t hG => c_X6_at l ω M00 0 b4 hG) 2 rfl gX6_isInLine_X6_at rfl rfl rfl (by decide +kernel) (by decide) (st0 := _) rfl (Nat.le_of_ble_eq_true rfl) dX6_isInLine_47 (fun r1 => ?_)
  refine g_bipush h 7 dX6_isInLine_50 (by decide) ?_
  refine g_iadd h dX6_isInLine_52 ?_
  refine g_iald h (v := T 1 ((r1 + 7).toNatClampNeg)) (uMr M0 0 _ _ _) iM_0_1 dX6_isInLine_53 ?_
  refine g_ni (fun v2 => ?_)
  refine g_istore h (lv' := [(4, .int v2), (3, .int s0), (0, .ref (th ω 0 0)), (1, .int b1)]) dX6_isInLine_54 (by decide) [0, 1, 2, 3] rfl ?_
  refine g_goto h (tgt := 17) dX6_isInLine_56 (by decide) ?_
  refine g_sub (lv' := [(0, .ref (th ω 0 0)), (1, .int b1), (3, .int s0), (4, .int v2)]) [2, 3, 1, 0] rfl ?_
  exact hκ17 _ _ _ _
set_option maxHeartbeats 4000000 in
set_option maxRecDepth 100000 in
theorem b_X6_isInLine_34 {Γ : Cx} {l : Launch} {ω : Wd} {M0 : Mm}  (h : CxOk Γ l ⟨1, 0, 0, 21⟩ 5 ω LM cX6_isInLine yX6_isInLine.cls wsX6_isInLine) (hR : RetI Γ ω LM cX6_isInLine .boolean) (κ17 : Int32 → Int32 → Int32 → Tm → Option (Int32 × Tm)) (hκ17 : ∀ (b1 : Int32) (b3 : Int32) (b4 : Int32) (T : Tm), Gq Γ ω LM (uM M0 0) 17 [(0, .ref (th ω 0 0)), (1, .int b1), (3, .int b3), (4, .int b4)] [] T (κ17 b1 b3 b4 T)) : ∀ (b1 : Int32) (b4 : Int32) (T : Tm), Gq Γ ω LM (uM M0 0) 34 [(0, .ref (th ω 0 0)), (1, .int b1), (4, .int b4)] [] T (m_X6_isInLine_34 κ17 b1 b4 T) := by
  intro b1 b4 T
  unfold m_X6_isInLine_34
  refine g_iconst h 1 dX6_isInLine_34 (by decide) ?_
  refine g_goto h (tgt := 39) dX6_isInLine_35 (by decide) ?_
  exact b_X6_isInLine_39 h hR _ hκ17 _ _ _ _
set_option maxHeartbeats 4000000 in
set_option maxRecDepth 100000 in
theorem b_X6_isInLine_17 {Γ : Cx} {l : Launch} {ω : Wd} {M0 : Mm}  (h : CxOk Γ l ⟨1, 0, 0, 21⟩ 5 ω LM cX6_isInLine yX6_isInLine.cls wsX6_isInLine) (hR : RetI Γ ω LM cX6_isInLine .boolean) : ∀ (n : Nat) (b1 : Int32) (b3 : Int32) (b4 : Int32) (T : Tm), Gq Γ ω LM (uM M0 0) 17 [(0, .ref (th ω 0 0)), (1, .int b1), (3, .int b3), (4, .int b4)] [] T (m_X6_isInLine_17 n b1 b3 b4 T) := by
  intro n
  induction n with
  | zero =>
    intro b1 b3 b4 T
    rw [m_X6_isInLine_17.eq_1]
    exact g_none
  | succ n ih =>
    intro b1 b3 b4 T
    rw [m_X6_isInLine_17.eq_2]
    refine g_iload h 3 dX6_isInLine_17 rfl ?_
    refine g_bipush h (-5) dX6_isInLine_19 (by decide) ?_
    refine g_icmp_eq h 59 dX6_isInLine_21 (by decide) (fun hc1 => ?_) (fun hc1 => ?_)
    · skip
      refine g_iload_n h 2 dX6_isInLine_59 rfl rfl ?_
      exact g_nret hR (fun _ => rfl) dX6_isInLine_60
    · skip
      refine g_iload_n h 2 dX6_isInLine_24 rfl rfl ?_
      refine g_if_ne h 34 dX6_isInLine_25 (by decide) (fun hc2 => ?_) (fun hc2 => ?_)
      · skip
        refine g_iload h 3 dX6_isInLine_28 rfl ?_
        refine g_iload_n h 1 dX6_isInLine_30 rfl rfl ?_
        refine g_icmp_ne h 38 dX6_isInLine_31 (by decide) (fun hc3 => ?_) (fun hc3 => ?_)
        · skip
          refine g_sub (lv' := [(0, .ref (th ω 0 0)), (1, .int b1), (4, .int b4)]) [0, 1, 3] rfl ?_
          exact b_X6_isInLine_34 h hR _ ih _ _ _
        · skip
          refine g_iconst h 0 dX6_isInLine_38 (by decide) ?_
          refine g_sub (lv' := [(0, .ref (th ω 0 0)), (1, .int b1), (4, .int b4)]) [0, 1, 3] rfl ?_
          exact b_X6_isInLine_39 h hR _ ih _ _ _ _
      · skip
        refine g_sub (lv' := [(0, .ref (th ω 0 0)), (1, .int b1), (4, .int b4)]) [0, 1, 3] rfl ?_
        exact b_X6_isInLine_34 h hR _ ih _ _ _
set_option maxHeartbeats 4000000 in
set_option maxRecDepth 100000 in
theorem c_X6_isInLine (l : Launch) (ω : Wd)  (M0 : Mm) (T : Tm) (a1 : Int32) (a2 : Int32) {r : Int32} {T' : Tm} (hm : m_X6_isInLine a1 a2 T = some (r, T')) : MI l yX6_isInLine wsX6_isInLine ⟨1, 0, 0, 21⟩ ω LM [.ref (th ω 0 0), .int a1, .int a2] (uM M0 0 T) r (uM M0 0 T') := by
  refine met_i (cc := cX6_isInLine) (maxL := 5) (ty := .boolean) (by decide +kernel) rfl (Nat.le_of_ble_eq_true rfl) LM_nd ?_
  intro Γ h hR ht
  suffices K : Gq Γ ω LM (uM M0 0) 0 [(0, .ref (th ω 0 0)), (1, .int a1), (2, .int a2)] [] T (m_X6_isInLine a1 a2 T) from K (r, T') hm ht
  unfold m_X6_isInLine
  refine g_iconst h 0 dX6_isInLine_0 (by decide) ?_
  refine g_istore_n h rfl (lv' := [(3, .int 0), (0, .ref (th ω 0 0)), (1, .int a1), (2, .int a2)]) dX6_isInLine_1 (by decide) [0, 1, 2, 3] rfl ?_
  refine g_aload_n h 1 dX6_isInLine_2 rfl rfl ?_
  refine g_getR h (index := 7) (j := 0) iM_0_0 (C := RX6) (T := TX6) (N := 13) rfl n_X6_isInLine_6 (by decide) rfl (by decide +kernel) dX6_isInLine_3 ?_
  refine g_iconst h 0 dX6_isInLine_6 (by decide) ?_
  refine g_iload_n h 3 dX6_isInLine_7 rfl rfl ?_
  refine g_callP h (As := [.int 0, .int a2]) (fun r t hG => c_X6_at l ω M00 0 a2 hG) 2 rfl gX6_isInLine_X6_at rfl rfl rfl (by decide +kernel) (by decide) (st0 := _) rfl (Nat.le_of_ble_eq_true rfl) dX6_isInLine_8 (fun r1 => ?_)
  refine g_bipush h 7 dX6_isInLine_11 (by decide) ?_
  refine g_iadd h dX6_isInLine_13 ?_
  refine g_iald h (v := T 1 ((r1 + 7).toNatClampNeg)) (uMr M0 0 _ _ _) iM_0_1 dX6_isInLine_14 ?_
  refine g_ni (fun v2 => ?_)
  refine g_istore h (lv' := [(4, .int v2), (3, .int 0), (0, .ref (th ω 0 0)), (1, .int a1), (2, .int a2)]) dX6_isInLine_15 (by decide) [0, 1, 2, 3, 4] rfl ?_
  refine g_sub (lv' := [(0, .ref (th ω 0 0)), (1, .int a1), (3, .int 0), (4, .int v2)]) [2, 3, 1, 0] rfl ?_
  exact b_X6_isInLine_17 h hR fu _ _ _ _
set_option maxHeartbeats 4000000 in
set_option maxRecDepth 100000 in
theorem b_X6_leastSwing_17 {Γ : Cx} {l : Launch} {ω : Wd} {M0 : Mm}  (h : CxOk Γ l ⟨4, 0, 0, 90⟩ 5 ω LM cX6_leastSwing yX6_leastSwing.cls wsX6_leastSwing) (hR : RetI Γ ω LM cX6_leastSwing .int) : ∀ (n : Nat) (b1 : Int32) (b2 : Int32) (b4 : Int32) (T : Tm), Gq Γ ω LM (uM M0 0) 17 [(0, .ref (th ω 0 0)), (1, .int b1), (2, .int b2), (4, .int b4)] [] T (m_X6_leastSwing_17 n b1 b2 b4 T) := by
  intro n
  induction n with
  | zero =>
    intro b1 b2 b4 T
    rw [m_X6_leastSwing_17.eq_1]
    exact g_none
  | succ n ih =>
    intro b1 b2 b4 T
    rw [m_X6_leastSwing_17.eq_2]
    refine g_iload h 3 dX6_leastSwing_17 rfl ?_
    refine g_bipush h 9 dX6_leastSwing_19 (by decide) ?_
    refine g_icmp_gt h 57 dX6_leastSwing_21 (by decide) (fun hc1 => ?_) (fun hc1 => ?_)
    · skip
      refine g_bipush h (-5) dX6_leastSwing_57 (by decide) ?_
      exact g_iret hR rfl dX6_leastSwing_59
    · skip
      refine g_aload_n h 0 dX6_leastSwing_24 rfl rfl ?_
      refine g_iconst h 0 dX6_leastSwing_25 (by decide) ?_
      refine g_bipush h 7 dX6_leastSwing_26 (by decide) ?_
      refine g_callV h (As := [.int 0, .int 7]) (fun t => t) (fun r t hG => c_X6_copies l ω M0 _ 0 7 hG) iM_0_0 (C := RX6) (T := TX6) (N := 13) rfl 2 rfl gX6_leastSwing_X6_copies rfl rfl rfl (by decide +kernel) (by decide) (st0 := _) rfl (Nat.le_of_ble_eq_true rfl) dX6_leastSwing_28 (fun r2 T3 => ?_)
      refine g_aload_n h 0 dX6_leastSwing_31 rfl rfl ?_
      refine g_sipush h 1792 dX6_leastSwing_32 (by decide) ?_
      refine g_iload_n h 1 dX6_leastSwing_35 rfl rfl ?_
      refine g_iload_n h 2 dX6_leastSwing_36 rfl rfl ?_
      refine g_iload h 3 dX6_leastSwing_37 rfl ?_
      refine g_callI h (As := [.int 1792, .int b1, .int b2, .int b4]) (fun t => t) (fun r t hG => c_X6_strikes l ω M0 _ 1792 b1 b2 b4 hG) iM_0_0 (C := RX6) (T := TX6) (N := 13) rfl 4 rfl gX6_leastSwing_X6_strikes rfl rfl rfl (by decide +kernel) (by decide) (st0 := _) rfl (Nat.le_of_ble_eq_true rfl) dX6_leastSwing_39 (fun r4 T5 => ?_)
      refine g_iconst h 4 dX6_leastSwing_42 (by decide) ?_
      refine g_irem h dX6_leastSwing_43 ?_
      refine g_iconst h 2 dX6_leastSwing_44 (by decide) ?_
      refine g_icmp_ne h 51 dX6_leastSwing_45 (by decide) (fun hc6 => ?_) (fun hc6 => ?_)
      · skip
        refine g_iload h 3 dX6_leastSwing_48 rfl ?_
        exact g_iret hR rfl dX6_leastSwing_50
      · skip
        refine g_iinc h (b4 + 1) (lv' := [(4, .int (b4 + 1)), (0, .ref (th ω 0 0)), (1, .int b1), (2, .int b2)]) dX6_leastSwing_51 3 rfl (congrArg (fun z => b4 + z) (by decide)) (by decide) [0, 1, 2, 3] rfl ?_
        refine g_goto h (tgt := 17) dX6_leastSwing_54 (by decide) ?_
        refine g_sub (lv' := [(0, .ref (th ω 0 0)), (1, .int b1), (2, .int b2), (4, .int (b4 + 1))]) [1, 2, 3, 0] rfl ?_
        exact ih _ _ _ _
set_option maxHeartbeats 4000000 in
set_option maxRecDepth 100000 in
theorem c_X6_leastSwing (l : Launch) (ω : Wd)  (M0 : Mm) (T : Tm) (a1 : Int32) (a2 : Int32) {r : Int32} {T' : Tm} (hm : m_X6_leastSwing a1 a2 T = some (r, T')) : MI l yX6_leastSwing wsX6_leastSwing ⟨4, 0, 0, 90⟩ ω LM [.ref (th ω 0 0), .int a1, .int a2] (uM M0 0 T) r (uM M0 0 T') := by
  refine met_i (cc := cX6_leastSwing) (maxL := 5) (ty := .int) (by decide +kernel) rfl (Nat.le_of_ble_eq_true rfl) LM_nd ?_
  intro Γ h hR ht
  suffices K : Gq Γ ω LM (uM M0 0) 0 [(0, .ref (th ω 0 0)), (1, .int a1), (2, .int a2)] [] T (m_X6_leastSwing a1 a2 T) from K (r, T') hm ht
  unfold m_X6_leastSwing
  refine g_aload_n h 0 dX6_leastSwing_0 rfl rfl ?_
  refine g_iload_n h 1 dX6_leastSwing_1 rfl rfl ?_
  refine g_iload_n h 2 dX6_leastSwing_2 rfl rfl ?_
  refine g_iconst h 1 dX6_leastSwing_3 (by decide) ?_
  refine g_callI h (As := [.int a1, .int a2, .int 1]) (fun t => t) (fun r t hG => c_X6_strikeError l ω M0 _ a1 a2 1 hG) iM_0_0 (C := RX6) (T := TX6) (N := 13) rfl 3 rfl gX6_leastSwing_X6_strikeError rfl rfl rfl (by decide +kernel) (by decide) (st0 := _) rfl (Nat.le_of_ble_eq_true rfl) dX6_leastSwing_4 (fun r1 T2 => ?_)
  refine g_istore_n h rfl (lv' := [(3, .int r1), (0, .ref (th ω 0 0)), (1, .int a1), (2, .int a2)]) dX6_leastSwing_7 (by decide) [0, 1, 2, 3] rfl ?_
  refine g_iload_n h 0 dX6_leastSwing_8 rfl rfl ?_
  refine g_if_eq h 14 dX6_leastSwing_9 (by decide) (fun hc3 => ?_) (fun hc3 => ?_)
  · skip
    refine g_iconst h 1 dX6_leastSwing_14 (by decide) ?_
    refine g_istore h (lv' := [(4, .int 1), (3, .int r1), (0, .ref (th ω 0 0)), (1, .int a1), (2, .int a2)]) dX6_leastSwing_15 (by decide) [0, 1, 2, 3, 4] rfl ?_
    refine g_sub (lv' := [(0, .ref (th ω 0 0)), (1, .int a1), (2, .int a2), (4, .int 1)]) [2, 3, 4, 0] rfl ?_
    exact b_X6_leastSwing_17 h hR fu _ _ _ _
  · skip
    refine g_iload_n h 0 dX6_leastSwing_12 rfl rfl ?_
    exact g_iret hR rfl dX6_leastSwing_13
theorem n_X6_line_6 : ∀ w ∈ wsX60, w ∈ wsX6_line := by decide +kernel
set_option maxHeartbeats 4000000 in
set_option maxRecDepth 100000 in
theorem b_X6_line_14 {Γ : Cx} {l : Launch} {ω : Wd} {M0 : Mm}  (h : CxOk Γ l ⟨2, 0, 0, 45⟩ 4 ω LM cX6_line yX6_line.cls wsX6_line) (hR : RetI Γ ω LM cX6_line .int) : ∀ (n : Nat) (b1 : Int32) (b2 : Int32) (b3 : Int32) (T : Tm), Gq Γ ω LM (uM M0 0) 14 [(0, .ref (th ω 0 0)), (1, .int b1), (2, .int b2), (3, .int b3)] [] T (m_X6_line_14 n b1 b2 b3 T) := by
  intro n
  induction n with
  | zero =>
    intro b1 b2 b3 T
    rw [m_X6_line_14.eq_1]
    exact g_none
  | succ n ih =>
    intro b1 b2 b3 T
    rw [m_X6_line_14.eq_2]
    refine g_iload_n h 3 dX6_line_14 rfl rfl ?_
    refine g_aload_n h 0 dX6_line_15 rfl rfl ?_
    refine g_getR h (index := 7) (j := 0) iM_0_0 (C := RX6) (T := TX6) (N := 13) rfl n_X6_line_6 (by decide) rfl (by decide +kernel) dX6_line_16 ?_
    refine g_iconst h 0 dX6_line_19 (by decide) ?_
    refine g_iald h (v := T 1 ((0 : Int32).toNatClampNeg)) (uMr M0 0 _ _ _) iM_0_1 dX6_line_20 ?_
    refine g_ni (fun v1 => ?_)
    refine g_icmp_ge h 42 dX6_line_21 (by decide) (fun hc2 => ?_) (fun hc2 => ?_)
    · skip
      refine g_iload_n h 2 dX6_line_42 rfl rfl ?_
      exact g_iret hR rfl dX6_line_43
    · skip
      refine g_iload_n h 2 dX6_line_24 rfl rfl ?_
      refine g_aload_n h 0 dX6_line_25 rfl rfl ?_
      refine g_iload_n h 1 dX6_line_26 rfl rfl ?_
      refine g_iload_n h 3 dX6_line_27 rfl rfl ?_
      refine g_callI h (As := [.int b1, .int b3]) (fun t => t) (fun r t hG => c_X6_isInLine l ω M0 _ b1 b3 hG) iM_0_0 (C := RX6) (T := TX6) (N := 13) rfl 2 rfl gX6_line_X6_isInLine rfl rfl rfl (by decide +kernel) (by decide) (st0 := _) rfl (Nat.le_of_ble_eq_true rfl) dX6_line_28 (fun r3 T4 => ?_)
      refine g_callP h (As := [.int r3]) (fun r t hG => c_X6_flag l ω M00 r3 hG) 1 rfl gX6_line_X6_flag rfl rfl rfl (by decide +kernel) (by decide) (st0 := _) rfl (Nat.le_of_ble_eq_true rfl) dX6_line_31 (fun r5 => ?_)
      refine g_iadd h dX6_line_34 ?_
      refine g_istore_n h rfl (lv' := [(2, .int (b2 + r5)), (0, .ref (th ω 0 0)), (1, .int b1), (3, .int b3)]) dX6_line_35 (by decide) [0, 1, 2, 3] rfl ?_
      refine g_iinc h (b3 + 1) (lv' := [(3, .int (b3 + 1)), (2, .int (b2 + r5)), (0, .ref (th ω 0 0)), (1, .int b1)]) dX6_line_36 3 rfl (congrArg (fun z => b3 + z) (by decide)) (by decide) [0, 1, 2, 3] rfl ?_
      refine g_goto h (tgt := 14) dX6_line_39 (by decide) ?_
      refine g_sub (lv' := [(0, .ref (th ω 0 0)), (1, .int b1), (2, .int (b2 + r5)), (3, .int (b3 + 1))]) [2, 3, 1, 0] rfl ?_
      exact ih _ _ _ _
set_option maxHeartbeats 4000000 in
set_option maxRecDepth 100000 in
theorem c_X6_line (l : Launch) (ω : Wd)  (M0 : Mm) (T : Tm) (a1 : Int32) {r : Int32} {T' : Tm} (hm : m_X6_line a1 T = some (r, T')) : MI l yX6_line wsX6_line ⟨2, 0, 0, 45⟩ ω LM [.ref (th ω 0 0), .int a1] (uM M0 0 T) r (uM M0 0 T') := by
  refine met_i (cc := cX6_line) (maxL := 4) (ty := .int) (by decide +kernel) rfl (Nat.le_of_ble_eq_true rfl) LM_nd ?_
  intro Γ h hR ht
  suffices K : Gq Γ ω LM (uM M0 0) 0 [(0, .ref (th ω 0 0)), (1, .int a1)] [] T (m_X6_line a1 T) from K (r, T') hm ht
  unfold m_X6_line
  refine g_aload_n h 0 dX6_line_0 rfl rfl ?_
  refine g_iload_n h 1 dX6_line_1 rfl rfl ?_
  refine g_callI h (As := [.int a1]) (fun t => t) (fun r t hG => c_X6_isConker l ω M0 _ a1 hG) iM_0_0 (C := RX6) (T := TX6) (N := 13) rfl 1 rfl gX6_line_X6_isConker rfl rfl rfl (by decide +kernel) (by decide) (st0 := _) rfl (Nat.le_of_ble_eq_true rfl) dX6_line_2 (fun r1 T2 => ?_)
  refine g_if_ne h 10 dX6_line_5 (by decide) (fun hc3 => ?_) (fun hc3 => ?_)
  · skip
    refine g_iconst h (-1) dX6_line_8 (by decide) ?_
    exact g_iret hR rfl dX6_line_9
  · skip
    refine g_iconst h 0 dX6_line_10 (by decide) ?_
    refine g_istore_n h rfl (lv' := [(2, .int 0), (0, .ref (th ω 0 0)), (1, .int a1)]) dX6_line_11 (by decide) [0, 1, 2] rfl ?_
    refine g_iconst h 0 dX6_line_12 (by decide) ?_
    refine g_istore_n h rfl (lv' := [(3, .int 0), (2, .int 0), (0, .ref (th ω 0 0)), (1, .int a1)]) dX6_line_13 (by decide) [0, 1, 2, 3] rfl ?_
    refine g_sub (lv' := [(0, .ref (th ω 0 0)), (1, .int a1), (2, .int 0), (3, .int 0)]) [2, 3, 1, 0] rfl ?_
    exact b_X6_line_14 h hR fu _ _ _ _
theorem n_X6_lines_6 : ∀ w ∈ wsX60, w ∈ wsX6_lines := by decide +kernel
set_option maxHeartbeats 4000000 in
set_option maxRecDepth 100000 in
theorem b_X6_lines_102 {Γ : Cx} {l : Launch} {ω : Wd} {M0 : Mm}  (h : CxOk Γ l ⟨2, 0, 0, 46⟩ 4 ω LM cX6_lines yX6_lines.cls wsX6_lines) (hR : RetI Γ ω LM cX6_lines .int) (κ4 : Int32 → Int32 → Tm → Option (Int32 × Tm)) (hκ4 : ∀ (b1 : Int32) (b2 : Int32) (T : Tm), Gq Γ ω LM (uM M0 0) 4 [(0, .ref (th ω 0 0)), (1, .int b1), (2, .int b2)] [] T (κ4 b1 b2 T)) : ∀ (b1 : Int32) (b2 : Int32) (T : Tm), Gq Γ ω LM (uM M0 0) 102 [(0, .ref (th ω 0 0)), (1, .int b1), (2, .int b2)] [] T (m_X6_lines_102 κ4 b1 b2 T) := by
  intro b1 b2 T
  unfold m_X6_lines_102
  refine g_iinc h (b2 + 1) (lv' := [(2, .int (b2 + 1)), (0, .ref (th ω 0 0)), (1, .int b1)]) dX6_lines_102 2 rfl (congrArg (fun z => b2 + z) (by decide)) (by decide) [0, 1, 2] rfl ?_
  refine g_goto h (tgt := 4) dX6_lines_105 (by decide) ?_
  refine g_sub (lv' := [(0, .ref (th ω 0 0)), (1, .int b1), (2, .int (b2 + 1))]) [1, 2, 0] rfl ?_
  exact hκ4 _ _ _
set_option maxHeartbeats 4000000 in
set_option maxRecDepth 100000 in
theorem b_X6_lines_92 {Γ : Cx} {l : Launch} {ω : Wd} {M0 : Mm}  (h : CxOk Γ l ⟨2, 0, 0, 46⟩ 4 ω LM cX6_lines yX6_lines.cls wsX6_lines) (hR : RetI Γ ω LM cX6_lines .int) (κ4 : Int32 → Int32 → Tm → Option (Int32 × Tm)) (hκ4 : ∀ (b1 : Int32) (b2 : Int32) (T : Tm), Gq Γ ω LM (uM M0 0) 4 [(0, .ref (th ω 0 0)), (1, .int b1), (2, .int b2)] [] T (κ4 b1 b2 T)) : ∀ (b1 : Int32) (b2 : Int32) (b3 : Int32) (T : Tm), Gq Γ ω LM (uM M0 0) 92 [(0, .ref (th ω 0 0)), (1, .int b1), (2, .int b2), (3, .int b3)] [] T (m_X6_lines_92 κ4 b1 b2 b3 T) := by
  intro b1 b2 b3 T
  unfold m_X6_lines_92
  refine g_aload_n h 0 dX6_lines_92 rfl rfl ?_
  refine g_getR h (index := 16) (j := 6) iM_0_0 (C := RX6) (T := TX6) (N := 13) rfl n_X6_lines_6 (by decide) rfl (by decide +kernel) dX6_lines_93 ?_
  refine g_iload_n h 3 dX6_lines_96 rfl rfl ?_
  refine g_iload_n h 2 dX6_lines_97 rfl rfl ?_
  refine g_iast h (x' := wT T 3 b3.toNatClampNeg b2) (wM_uM M0 0 _ _ _ _).symm iM_0_3 dX6_lines_98 ?_
  refine g_nm (fun T1 => ?_)
  refine g_iinc h (b1 + 1) (lv' := [(1, .int (b1 + 1)), (0, .ref (th ω 0 0)), (2, .int b2), (3, .int b3)]) dX6_lines_99 1 rfl (congrArg (fun z => b1 + z) (by decide)) (by decide) [0, 1, 2, 3] rfl ?_
  refine g_sub (lv' := [(0, .ref (th ω 0 0)), (1, .int (b1 + 1)), (2, .int b2)]) [1, 0, 2] rfl ?_
  exact b_X6_lines_102 h hR _ hκ4 _ _ _
set_option maxHeartbeats 4000000 in
set_option maxRecDepth 100000 in
theorem b_X6_lines_34 {Γ : Cx} {l : Launch} {ω : Wd} {M0 : Mm}  (h : CxOk Γ l ⟨2, 0, 0, 46⟩ 4 ω LM cX6_lines yX6_lines.cls wsX6_lines) (hR : RetI Γ ω LM cX6_lines .int) (κ4 : Int32 → Int32 → Tm → Option (Int32 × Tm)) (hκ4 : ∀ (b1 : Int32) (b2 : Int32) (T : Tm), Gq Γ ω LM (uM M0 0) 4 [(0, .ref (th ω 0 0)), (1, .int b1), (2, .int b2)] [] T (κ4 b1 b2 T)) : ∀ (n : Nat) (b1 : Int32) (b2 : Int32) (b3 : Int32) (T : Tm), Gq Γ ω LM (uM M0 0) 34 [(0, .ref (th ω 0 0)), (1, .int b1), (2, .int b2), (3, .int b3)] [] T (m_X6_lines_34 κ4 n b1 b2 b3 T) := by
  intro n
  induction n with
  | zero =>
    intro b1 b2 b3 T
    rw [m_X6_lines_34.eq_1]
    exact g_none
  | succ n ih =>
    intro b1 b2 b3 T
    rw [m_X6_lines_34.eq_2]
    refine g_iload_n h 3 dX6_lines_34 rfl rfl ?_
    refine g_if_le h 92 dX6_lines_35 (by decide) (fun hc1 => ?_) (fun hc1 => ?_)
    · skip
      exact b_X6_lines_92 h hR _ hκ4 _ _ _ _
    · skip
      refine g_aload_n h 0 dX6_lines_38 rfl rfl ?_
      refine g_getR h (index := 7) (j := 0) iM_0_0 (C := RX6) (T := TX6) (N := 13) rfl n_X6_lines_6 (by decide) rfl (by decide +kernel) dX6_lines_39 ?_
      refine g_iconst h 4 dX6_lines_42 (by decide) ?_
      refine g_iconst h 2 dX6_lines_43 (by decide) ?_
      refine g_aload_n h 0 dX6_lines_44 rfl rfl ?_
      refine g_getR h (index := 16) (j := 6) iM_0_0 (C := RX6) (T := TX6) (N := 13) rfl n_X6_lines_6 (by decide) rfl (by decide +kernel) dX6_lines_45 ?_
      refine g_iload_n h 3 dX6_lines_48 rfl rfl ?_
      refine g_iconst h 1 dX6_lines_49 (by decide) ?_
      refine g_isub h dX6_lines_50 ?_
      refine g_iald h (v := T 3 ((b3 - 1).toNatClampNeg)) (uMr M0 0 _ _ _) iM_0_3 dX6_lines_51 ?_
      refine g_ni (fun v2 => ?_)
      refine g_imul h dX6_lines_52 ?_
      refine g_iadd h dX6_lines_53 ?_
      refine g_iconst h 1 dX6_lines_54 (by decide) ?_
      refine g_iadd h dX6_lines_55 ?_
      refine g_iald h (v := T 1 (((4 + (2 * v2)) + 1).toNatClampNeg)) (uMr M0 0 _ _ _) iM_0_1 dX6_lines_56 ?_
      refine g_ni (fun v3 => ?_)
      refine g_aload_n h 0 dX6_lines_57 rfl rfl ?_
      refine g_getR h (index := 7) (j := 0) iM_0_0 (C := RX6) (T := TX6) (N := 13) rfl n_X6_lines_6 (by decide) rfl (by decide +kernel) dX6_lines_58 ?_
      refine g_iconst h 4 dX6_lines_61 (by decide) ?_
      refine g_iconst h 2 dX6_lines_62 (by decide) ?_
      refine g_iload_n h 2 dX6_lines_63 rfl rfl ?_
      refine g_imul h dX6_lines_64 ?_
      refine g_iadd h dX6_lines_65 ?_
      refine g_iconst h 1 dX6_lines_66 (by decide) ?_
      refine g_iadd h dX6_lines_67 ?_
      refine g_iald h (v := T 1 (((4 + (2 * b2)) + 1).toNatClampNeg)) (uMr M0 0 _ _ _) iM_0_1 dX6_lines_68 ?_
      refine g_ni (fun v4 => ?_)
      refine g_icmp_le h 92 dX6_lines_69 (by decide) (fun hc5 => ?_) (fun hc5 => ?_)
      · skip
        exact b_X6_lines_92 h hR _ hκ4 _ _ _ _
      · skip
        refine g_aload_n h 0 dX6_lines_72 rfl rfl ?_
        refine g_getR h (index := 16) (j := 6) iM_0_0 (C := RX6) (T := TX6) (N := 13) rfl n_X6_lines_6 (by decide) rfl (by decide +kernel) dX6_lines_73 ?_
        refine g_iload_n h 3 dX6_lines_76 rfl rfl ?_
        refine g_aload_n h 0 dX6_lines_77 rfl rfl ?_
        refine g_getR h (index := 16) (j := 6) iM_0_0 (C := RX6) (T := TX6) (N := 13) rfl n_X6_lines_6 (by decide) rfl (by decide +kernel) dX6_lines_78 ?_
        refine g_iload_n h 3 dX6_lines_81 rfl rfl ?_
        refine g_iconst h 1 dX6_lines_82 (by decide) ?_
        refine g_isub h dX6_lines_83 ?_
        refine g_iald h (v := T 3 ((b3 - 1).toNatClampNeg)) (uMr M0 0 _ _ _) iM_0_3 dX6_lines_84 ?_
        refine g_ni (fun v6 => ?_)
        refine g_iast h (x' := wT T 3 b3.toNatClampNeg v6) (wM_uM M0 0 _ _ _ _).symm iM_0_3 dX6_lines_85 ?_
        refine g_nm (fun T7 => ?_)
        refine g_iinc h (b3 + (-1)) (lv' := [(3, .int (b3 + (-1))), (0, .ref (th ω 0 0)), (1, .int b1), (2, .int b2)]) dX6_lines_86 3 rfl (congrArg (fun z => b3 + z) (by decide)) (by decide) [0, 1, 2, 3] rfl ?_
        refine g_goto h (tgt := 34) dX6_lines_89 (by decide) ?_
        refine g_sub (lv' := [(0, .ref (th ω 0 0)), (1, .int b1), (2, .int b2), (3, .int (b3 + (-1)))]) [1, 2, 3, 0] rfl ?_
        exact ih _ _ _ _
set_option maxHeartbeats 4000000 in
set_option maxRecDepth 100000 in
theorem b_X6_lines_4 {Γ : Cx} {l : Launch} {ω : Wd} {M0 : Mm}  (h : CxOk Γ l ⟨2, 0, 0, 46⟩ 4 ω LM cX6_lines yX6_lines.cls wsX6_lines) (hR : RetI Γ ω LM cX6_lines .int) : ∀ (n : Nat) (b1 : Int32) (b2 : Int32) (T : Tm), Gq Γ ω LM (uM M0 0) 4 [(0, .ref (th ω 0 0)), (1, .int b1), (2, .int b2)] [] T (m_X6_lines_4 n b1 b2 T) := by
  intro n
  induction n with
  | zero =>
    intro b1 b2 T
    rw [m_X6_lines_4.eq_1]
    exact g_none
  | succ n ih =>
    intro b1 b2 T
    rw [m_X6_lines_4.eq_2]
    refine g_iload_n h 2 dX6_lines_4 rfl rfl ?_
    refine g_bipush h 6 dX6_lines_5 (by decide) ?_
    refine g_icmp_ge h 108 dX6_lines_7 (by decide) (fun hc1 => ?_) (fun hc1 => ?_)
    · skip
      refine g_iload_n h 1 dX6_lines_108 rfl rfl ?_
      exact g_iret hR rfl dX6_lines_109
    · skip
      refine g_aload_n h 0 dX6_lines_10 rfl rfl ?_
      refine g_getR h (index := 19) (j := 7) iM_0_0 (C := RX6) (T := TX6) (N := 13) rfl n_X6_lines_6 (by decide) rfl (by decide +kernel) dX6_lines_11 ?_
      refine g_iload_n h 2 dX6_lines_14 rfl rfl ?_
      refine g_aload_n h 0 dX6_lines_15 rfl rfl ?_
      refine g_iload_n h 2 dX6_lines_16 rfl rfl ?_
      refine g_callI h (As := [.int b2]) (fun t => t) (fun r t hG => c_X6_best l ω M0 _ b2 hG) iM_0_0 (C := RX6) (T := TX6) (N := 13) rfl 1 rfl gX6_lines_X6_best rfl rfl rfl (by decide +kernel) (by decide) (st0 := _) rfl (Nat.le_of_ble_eq_true rfl) dX6_lines_17 (fun r2 T3 => ?_)
      refine g_iast h (x' := wT T3 4 b2.toNatClampNeg r2) (wM_uM M0 0 _ _ _ _).symm iM_0_4 dX6_lines_20 ?_
      refine g_nm (fun T4 => ?_)
      refine g_aload_n h 0 dX6_lines_21 rfl rfl ?_
      refine g_getR h (index := 19) (j := 7) iM_0_0 (C := RX6) (T := TX6) (N := 13) rfl n_X6_lines_6 (by decide) rfl (by decide +kernel) dX6_lines_22 ?_
      refine g_iload_n h 2 dX6_lines_25 rfl rfl ?_
      refine g_iald h (v := T4 4 b2.toNatClampNeg) (uMr M0 0 _ _ _) iM_0_4 dX6_lines_26 ?_
      refine g_ni (fun v5 => ?_)
      refine g_bipush h (-5) dX6_lines_27 (by decide) ?_
      refine g_icmp_eq h 102 dX6_lines_29 (by decide) (fun hc6 => ?_) (fun hc6 => ?_)
      · skip
        exact b_X6_lines_102 h hR _ ih _ _ _
      · skip
        refine g_iload_n h 1 dX6_lines_32 rfl rfl ?_
        refine g_istore_n h rfl (lv' := [(3, .int b1), (0, .ref (th ω 0 0)), (1, .int b1), (2, .int b2)]) dX6_lines_33 (by decide) [0, 1, 2, 3] rfl ?_
        refine g_sub (lv' := [(0, .ref (th ω 0 0)), (1, .int b1), (2, .int b2), (3, .int b1)]) [1, 2, 3, 0] rfl ?_
        exact b_X6_lines_34 h hR _ ih fu _ _ _ _
set_option maxHeartbeats 4000000 in
set_option maxRecDepth 100000 in
theorem c_X6_lines (l : Launch) (ω : Wd)  (M0 : Mm) (T : Tm) {r : Int32} {T' : Tm} (hm : m_X6_lines T = some (r, T')) : MI l yX6_lines wsX6_lines ⟨2, 0, 0, 46⟩ ω LM [.ref (th ω 0 0)] (uM M0 0 T) r (uM M0 0 T') := by
  refine met_i (cc := cX6_lines) (maxL := 4) (ty := .int) (by decide +kernel) rfl (Nat.le_of_ble_eq_true rfl) LM_nd ?_
  intro Γ h hR ht
  suffices K : Gq Γ ω LM (uM M0 0) 0 [(0, .ref (th ω 0 0))] [] T (m_X6_lines T) from K (r, T') hm ht
  unfold m_X6_lines
  refine g_iconst h 0 dX6_lines_0 (by decide) ?_
  refine g_istore_n h rfl (lv' := [(1, .int 0), (0, .ref (th ω 0 0))]) dX6_lines_1 (by decide) [0, 1] rfl ?_
  refine g_iconst h 0 dX6_lines_2 (by decide) ?_
  refine g_istore_n h rfl (lv' := [(2, .int 0), (1, .int 0), (0, .ref (th ω 0 0))]) dX6_lines_3 (by decide) [0, 1, 2] rfl ?_
  refine g_sub (lv' := [(0, .ref (th ω 0 0)), (1, .int 0), (2, .int 0)]) [2, 1, 0] rfl ?_
  exact b_X6_lines_4 h hR fu _ _ _
theorem n_X6_mendError_6 : ∀ w ∈ wsX60, w ∈ wsX6_mendError := by decide +kernel
set_option maxHeartbeats 4000000 in
set_option maxRecDepth 100000 in
theorem b_X6_mendError_42 {Γ : Cx} {l : Launch} {ω : Wd} {M0 : Mm}  (h : CxOk Γ l ⟨2, 0, 0, 43⟩ 2 ω LM cX6_mendError yX6_mendError.cls wsX6_mendError) (hR : RetI Γ ω LM cX6_mendError .int) : ∀ (T : Tm), Gq Γ ω LM (uM M0 0) 42 [] [] T (m_X6_mendError_42 T) := by
  intro T
  unfold m_X6_mendError_42
  refine g_bipush h (-4) dX6_mendError_42 (by decide) ?_
  refine g_goto h (tgt := 48) dX6_mendError_44 (by decide) ?_
  exact g_iret hR rfl dX6_mendError_48
set_option maxHeartbeats 4000000 in
set_option maxRecDepth 100000 in
theorem c_X6_mendError (l : Launch) (ω : Wd)  (M0 : Mm) (T : Tm) (a1 : Int32) {r : Int32} {T' : Tm} (hm : m_X6_mendError a1 T = some (r, T')) : MI l yX6_mendError wsX6_mendError ⟨2, 0, 0, 43⟩ ω LM [.ref (th ω 0 0), .int a1] (uM M0 0 T) r (uM M0 0 T') := by
  refine met_i (cc := cX6_mendError) (maxL := 2) (ty := .int) (by decide +kernel) rfl (Nat.le_of_ble_eq_true rfl) LM_nd ?_
  intro Γ h hR ht
  suffices K : Gq Γ ω LM (uM M0 0) 0 [(0, .ref (th ω 0 0)), (1, .int a1)] [] T (m_X6_mendError a1 T) from K (r, T') hm ht
  unfold m_X6_mendError
  refine g_aload_n h 0 dX6_mendError_0 rfl rfl ?_
  refine g_iload_n h 1 dX6_mendError_1 rfl rfl ?_
  refine g_callI h (As := [.int a1]) (fun t => t) (fun r t hG => c_X6_isConker l ω M0 _ a1 hG) iM_0_0 (C := RX6) (T := TX6) (N := 13) rfl 1 rfl gX6_mendError_X6_isConker rfl rfl rfl (by decide +kernel) (by decide) (st0 := _) rfl (Nat.le_of_ble_eq_true rfl) dX6_mendError_2 (fun r1 T2 => ?_)
  refine g_if_ne h 12 dX6_mendError_5 (by decide) (fun hc3 => ?_) (fun hc3 => ?_)
  · skip
    refine g_iconst h (-1) dX6_mendError_8 (by decide) ?_
    refine g_goto h (tgt := 48) dX6_mendError_9 (by decide) ?_
    exact g_iret hR rfl dX6_mendError_48
  · skip
    refine g_aload_n h 0 dX6_mendError_12 rfl rfl ?_
    refine g_getR h (index := 7) (j := 0) iM_0_0 (C := RX6) (T := TX6) (N := 13) rfl n_X6_mendError_6 (by decide) rfl (by decide +kernel) dX6_mendError_13 ?_
    refine g_iconst h 0 dX6_mendError_16 (by decide) ?_
    refine g_iload_n h 1 dX6_mendError_17 rfl rfl ?_
    refine g_callP h (As := [.int 0, .int a1]) (fun r t hG => c_X6_at l ω M00 0 a1 hG) 2 rfl gX6_mendError_X6_at rfl rfl rfl (by decide +kernel) (by decide) (st0 := _) rfl (Nat.le_of_ble_eq_true rfl) dX6_mendError_18 (fun r4 => ?_)
    refine g_bipush h 6 dX6_mendError_21 (by decide) ?_
    refine g_iadd h dX6_mendError_23 ?_
    refine g_iald h (v := T2 1 ((r4 + 6).toNatClampNeg)) (uMr M0 0 _ _ _) iM_0_1 dX6_mendError_24 ?_
    refine g_ni (fun v5 => ?_)
    refine g_iconst h 1 dX6_mendError_25 (by decide) ?_
    refine g_icmp_ne h 42 dX6_mendError_26 (by decide) (fun hc6 => ?_) (fun hc6 => ?_)
    · skip
      refine g_aload_n h 0 dX6_mendError_29 rfl rfl ?_
      refine g_getR h (index := 7) (j := 0) iM_0_0 (C := RX6) (T := TX6) (N := 13) rfl n_X6_mendError_6 (by decide) rfl (by decide +kernel) dX6_mendError_30 ?_
      refine g_aload_n h 0 dX6_mendError_33 rfl rfl ?_
      refine g_iload_n h 1 dX6_mendError_34 rfl rfl ?_
      refine g_callI h (As := [.int a1]) (fun t => t) (fun r t hG => c_X6_spare l ω M0 _ a1 hG) iM_0_0 (C := RX6) (T := TX6) (N := 13) rfl 1 rfl gX6_mendError_X6_spare rfl rfl rfl (by decide +kernel) (by decide) (st0 := _) rfl (Nat.le_of_ble_eq_true rfl) dX6_mendError_35 (fun r7 T8 => ?_)
      refine g_iald h (v := T8 1 r7.toNatClampNeg) (uMr M0 0 _ _ _) iM_0_1 dX6_mendError_38 ?_
      refine g_ni (fun v9 => ?_)
      refine g_if_ne h 47 dX6_mendError_39 (by decide) (fun hc10 => ?_) (fun hc10 => ?_)
      · skip
        refine g_sub (lv' := []) [] rfl ?_
        exact b_X6_mendError_42 h hR _
      · skip
        refine g_iconst h 0 dX6_mendError_47 (by decide) ?_
        exact g_iret hR rfl dX6_mendError_48
    · skip
      refine g_sub (lv' := []) [] rfl ?_
      exact b_X6_mendError_42 h hR _
set_option maxHeartbeats 4000000 in
set_option maxRecDepth 100000 in
theorem c_X6_mend (l : Launch) (ω : Wd)  (M0 : Mm) (T : Tm) (a1 : Int32) {r : Int32} {T' : Tm} (hm : m_X6_mend a1 T = some (r, T')) : MI l yX6_mend wsX6_mend ⟨3, 0, 0, 64⟩ ω LM [.ref (th ω 0 0), .int a1] (uM M0 0 T) r (uM M0 0 T') := by
  refine met_i (cc := cX6_mend) (maxL := 3) (ty := .int) (by decide +kernel) rfl (Nat.le_of_ble_eq_true rfl) LM_nd ?_
  intro Γ h hR ht
  suffices K : Gq Γ ω LM (uM M0 0) 0 [(0, .ref (th ω 0 0)), (1, .int a1)] [] T (m_X6_mend a1 T) from K (r, T') hm ht
  unfold m_X6_mend
  refine g_aload_n h 0 dX6_mend_0 rfl rfl ?_
  refine g_iload_n h 1 dX6_mend_1 rfl rfl ?_
  refine g_callI h (As := [.int a1]) (fun t => t) (fun r t hG => c_X6_mendError l ω M0 _ a1 hG) iM_0_0 (C := RX6) (T := TX6) (N := 13) rfl 1 rfl gX6_mend_X6_mendError rfl rfl rfl (by decide +kernel) (by decide) (st0 := _) rfl (Nat.le_of_ble_eq_true rfl) dX6_mend_2 (fun r1 T2 => ?_)
  refine g_istore_n h rfl (lv' := [(2, .int r1), (0, .ref (th ω 0 0)), (1, .int a1)]) dX6_mend_5 (by decide) [0, 1, 2] rfl ?_
  refine g_iload_n h 0 dX6_mend_6 rfl rfl ?_
  refine g_if_eq h 12 dX6_mend_7 (by decide) (fun hc3 => ?_) (fun hc3 => ?_)
  · skip
    refine g_aload_n h 1 dX6_mend_12 rfl rfl ?_
    refine g_callV h (As := []) (fun t => t) (fun r t hG => c_X6_records l ω M0 _ hG) iM_0_0 (C := RX6) (T := TX6) (N := 13) rfl 0 rfl gX6_mend_X6_records rfl rfl rfl (by decide +kernel) (by decide) (st0 := _) rfl (Nat.le_of_ble_eq_true rfl) dX6_mend_13 (fun r4 T5 => ?_)
    refine g_aload_n h 1 dX6_mend_16 rfl rfl ?_
    refine g_iload_n h 2 dX6_mend_17 rfl rfl ?_
    refine g_callI h (As := [.int a1]) (fun t => t) (fun r t hG => c_X6_mends l ω M0 _ a1 hG) iM_0_0 (C := RX6) (T := TX6) (N := 13) rfl 1 rfl gX6_mend_X6_mends rfl rfl rfl (by decide +kernel) (by decide) (st0 := _) rfl (Nat.le_of_ble_eq_true rfl) dX6_mend_18 (fun r6 T7 => ?_)
    exact g_iret hR rfl dX6_mend_21
  · skip
    refine g_iload_n h 0 dX6_mend_10 rfl rfl ?_
    exact g_iret hR rfl dX6_mend_11
theorem n_X6_stampError_6 : ∀ w ∈ wsX60, w ∈ wsX6_stampError := by decide +kernel
set_option maxHeartbeats 4000000 in
set_option maxRecDepth 100000 in
theorem c_X6_stampError (l : Launch) (ω : Wd)  (M0 : Mm) (T : Tm) (a1 : Int32) {r : Int32} {T' : Tm} (hm : m_X6_stampError a1 T = some (r, T')) : MI l yX6_stampError wsX6_stampError ⟨2, 0, 0, 43⟩ ω LM [.ref (th ω 0 0), .int a1] (uM M0 0 T) r (uM M0 0 T') := by
  refine met_i (cc := cX6_stampError) (maxL := 2) (ty := .int) (by decide +kernel) rfl (Nat.le_of_ble_eq_true rfl) LM_nd ?_
  intro Γ h hR ht
  suffices K : Gq Γ ω LM (uM M0 0) 0 [(0, .ref (th ω 0 0)), (1, .int a1)] [] T (m_X6_stampError a1 T) from K (r, T') hm ht
  unfold m_X6_stampError
  refine g_aload_n h 0 dX6_stampError_0 rfl rfl ?_
  refine g_iload_n h 1 dX6_stampError_1 rfl rfl ?_
  refine g_callI h (As := [.int a1]) (fun t => t) (fun r t hG => c_X6_isConker l ω M0 _ a1 hG) iM_0_0 (C := RX6) (T := TX6) (N := 13) rfl 1 rfl gX6_stampError_X6_isConker rfl rfl rfl (by decide +kernel) (by decide) (st0 := _) rfl (Nat.le_of_ble_eq_true rfl) dX6_stampError_2 (fun r1 T2 => ?_)
  refine g_if_ne h 12 dX6_stampError_5 (by decide) (fun hc3 => ?_) (fun hc3 => ?_)
  · skip
    refine g_iconst h (-1) dX6_stampError_8 (by decide) ?_
    refine g_goto h (tgt := 35) dX6_stampError_9 (by decide) ?_
    exact g_iret hR rfl dX6_stampError_35
  · skip
    refine g_aload_n h 0 dX6_stampError_12 rfl rfl ?_
    refine g_getR h (index := 7) (j := 0) iM_0_0 (C := RX6) (T := TX6) (N := 13) rfl n_X6_stampError_6 (by decide) rfl (by decide +kernel) dX6_stampError_13 ?_
    refine g_iconst h 0 dX6_stampError_16 (by decide) ?_
    refine g_iload_n h 1 dX6_stampError_17 rfl rfl ?_
    refine g_callP h (As := [.int 0, .int a1]) (fun r t hG => c_X6_at l ω M00 0 a1 hG) 2 rfl gX6_stampError_X6_at rfl rfl rfl (by decide +kernel) (by decide) (st0 := _) rfl (Nat.le_of_ble_eq_true rfl) dX6_stampError_18 (fun r4 => ?_)
    refine g_bipush h 6 dX6_stampError_21 (by decide) ?_
    refine g_iadd h dX6_stampError_23 ?_
    refine g_iald h (v := T2 1 ((r4 + 6).toNatClampNeg)) (uMr M0 0 _ _ _) iM_0_1 dX6_stampError_24 ?_
    refine g_ni (fun v5 => ?_)
    refine g_iconst h 1 dX6_stampError_25 (by decide) ?_
    refine g_icmp_eq h 34 dX6_stampError_26 (by decide) (fun hc6 => ?_) (fun hc6 => ?_)
    · skip
      refine g_iconst h 0 dX6_stampError_34 (by decide) ?_
      exact g_iret hR rfl dX6_stampError_35
    · skip
      refine g_bipush h (-4) dX6_stampError_29 (by decide) ?_
      refine g_goto h (tgt := 35) dX6_stampError_31 (by decide) ?_
      exact g_iret hR rfl dX6_stampError_35
theorem n_X6_orderError_6 : ∀ w ∈ wsX60, w ∈ wsX6_orderError := by decide +kernel
set_option maxHeartbeats 4000000 in
set_option maxRecDepth 100000 in
theorem c_X6_orderError (l : Launch) (ω : Wd)  (M0 : Mm) (T : Tm) {r : Int32} {T' : Tm} (hm : m_X6_orderError T = some (r, T')) : MI l yX6_orderError wsX6_orderError ⟨4, 0, 0, 90⟩ ω LM [.ref (th ω 0 0)] (uM M0 0 T) r (uM M0 0 T') := by
  refine met_i (cc := cX6_orderError) (maxL := 1) (ty := .int) (by decide +kernel) rfl (Nat.le_of_ble_eq_true rfl) LM_nd ?_
  intro Γ h hR ht
  suffices K : Gq Γ ω LM (uM M0 0) 0 [(0, .ref (th ω 0 0))] [] T (m_X6_orderError T) from K (r, T') hm ht
  unfold m_X6_orderError
  refine g_aload_n h 0 dX6_orderError_0 rfl rfl ?_
  refine g_getI h (v := T 0 9) (uMr M0 0 _ _ _) (index := 120) (j := 9) iM_0_0 (C := RX6) (T := TX6) (N := 13) rfl n_X6_orderError_6 (by decide) rfl (by decide +kernel) dX6_orderError_1 ?_
  refine g_ni (fun v1 => ?_)
  refine g_bipush h 116 dX6_orderError_4 (by decide) ?_
  refine g_icmp_ne h 20 dX6_orderError_6 (by decide) (fun hc2 => ?_) (fun hc2 => ?_)
  · skip
    refine g_aload_n h 0 dX6_orderError_9 rfl rfl ?_
    refine g_aload_n h 0 dX6_orderError_10 rfl rfl ?_
    refine g_getI h (v := T 0 10) (uMr M0 0 _ _ _) (index := 126) (j := 10) iM_0_0 (C := RX6) (T := TX6) (N := 13) rfl n_X6_orderError_6 (by decide) rfl (by decide +kernel) dX6_orderError_11 ?_
    refine g_ni (fun v3 => ?_)
    refine g_callI h (As := [.int v3]) (fun t => t) (fun r t hG => c_X6_mendError l ω M0 _ v3 hG) iM_0_0 (C := RX6) (T := TX6) (N := 13) rfl 1 rfl gX6_orderError_X6_mendError rfl rfl rfl (by decide +kernel) (by decide) (st0 := _) rfl (Nat.le_of_ble_eq_true rfl) dX6_orderError_14 (fun r4 T5 => ?_)
    refine g_goto h (tgt := 56) dX6_orderError_17 (by decide) ?_
    exact g_iret hR rfl dX6_orderError_56
  · skip
    refine g_aload_n h 0 dX6_orderError_20 rfl rfl ?_
    refine g_getI h (v := T 0 9) (uMr M0 0 _ _ _) (index := 120) (j := 9) iM_0_0 (C := RX6) (T := TX6) (N := 13) rfl n_X6_orderError_6 (by decide) rfl (by decide +kernel) dX6_orderError_21 ?_
    refine g_ni (fun v6 => ?_)
    refine g_bipush h 115 dX6_orderError_24 (by decide) ?_
    refine g_icmp_ne h 40 dX6_orderError_26 (by decide) (fun hc7 => ?_) (fun hc7 => ?_)
    · skip
      refine g_aload_n h 0 dX6_orderError_29 rfl rfl ?_
      refine g_aload_n h 0 dX6_orderError_30 rfl rfl ?_
      refine g_getI h (v := T 0 10) (uMr M0 0 _ _ _) (index := 126) (j := 10) iM_0_0 (C := RX6) (T := TX6) (N := 13) rfl n_X6_orderError_6 (by decide) rfl (by decide +kernel) dX6_orderError_31 ?_
      refine g_ni (fun v8 => ?_)
      refine g_callI h (As := [.int v8]) (fun t => t) (fun r t hG => c_X6_stampError l ω M0 _ v8 hG) iM_0_0 (C := RX6) (T := TX6) (N := 13) rfl 1 rfl gX6_orderError_X6_stampError rfl rfl rfl (by decide +kernel) (by decide) (st0 := _) rfl (Nat.le_of_ble_eq_true rfl) dX6_orderError_34 (fun r9 T10 => ?_)
      refine g_goto h (tgt := 56) dX6_orderError_37 (by decide) ?_
      exact g_iret hR rfl dX6_orderError_56
    · skip
      refine g_aload_n h 0 dX6_orderError_40 rfl rfl ?_
      refine g_aload_n h 0 dX6_orderError_41 rfl rfl ?_
      refine g_getI h (v := T 0 10) (uMr M0 0 _ _ _) (index := 126) (j := 10) iM_0_0 (C := RX6) (T := TX6) (N := 13) rfl n_X6_orderError_6 (by decide) rfl (by decide +kernel) dX6_orderError_42 ?_
      refine g_ni (fun v11 => ?_)
      refine g_aload_n h 0 dX6_orderError_45 rfl rfl ?_
      refine g_getI h (v := T 0 11) (uMr M0 0 _ _ _) (index := 129) (j := 11) iM_0_0 (C := RX6) (T := TX6) (N := 13) rfl n_X6_orderError_6 (by decide) rfl (by decide +kernel) dX6_orderError_46 ?_
      refine g_ni (fun v12 => ?_)
      refine g_aload_n h 0 dX6_orderError_49 rfl rfl ?_
      refine g_getI h (v := T 0 12) (uMr M0 0 _ _ _) (index := 132) (j := 12) iM_0_0 (C := RX6) (T := TX6) (N := 13) rfl n_X6_orderError_6 (by decide) rfl (by decide +kernel) dX6_orderError_50 ?_
      refine g_ni (fun v13 => ?_)
      refine g_callI h (As := [.int v11, .int v12, .int v13]) (fun t => t) (fun r t hG => c_X6_strikeError l ω M0 _ v11 v12 v13 hG) iM_0_0 (C := RX6) (T := TX6) (N := 13) rfl 3 rfl gX6_orderError_X6_strikeError rfl rfl rfl (by decide +kernel) (by decide) (st0 := _) rfl (Nat.le_of_ble_eq_true rfl) dX6_orderError_53 (fun r14 T15 => ?_)
      exact g_iret hR rfl dX6_orderError_56
theorem n_X6_player_6 : ∀ w ∈ wsX60, w ∈ wsX6_player := by decide +kernel
set_option maxHeartbeats 4000000 in
set_option maxRecDepth 100000 in
theorem b_X6_player_65 {Γ : Cx} {l : Launch} {ω : Wd} {M0 : Mm}  (h : CxOk Γ l ⟨2, 0, 0, 46⟩ 3 ω LM cX6_player yX6_player.cls wsX6_player) (hR : RetI Γ ω LM cX6_player .int) : ∀ (b1 : Int32) (b2 : Int32) (T : Tm), Gq Γ ω LM (uM M0 0) 65 [(0, .ref (th ω 0 0)), (1, .int b1), (2, .int b2)] [] T (m_X6_player_65 b1 b2 T) := by
  intro b1 b2 T
  unfold m_X6_player_65
  refine g_aload_n h 0 dX6_player_65 rfl rfl ?_
  refine g_iload_n h 1 dX6_player_66 rfl rfl ?_
  refine g_iload_n h 2 dX6_player_67 rfl rfl ?_
  refine g_iconst h 2 dX6_player_68 (by decide) ?_
  refine g_isub h dX6_player_69 ?_
  refine g_callI h (As := [.int b1, .int (b2 - 2)]) (fun t => t) (fun r t hG => c_X6_conkers l ω M0 _ b1 (b2 - 2) hG) iM_0_0 (C := RX6) (T := TX6) (N := 13) rfl 2 rfl gX6_player_X6_conkers rfl rfl rfl (by decide +kernel) (by decide) (st0 := _) rfl (Nat.le_of_ble_eq_true rfl) dX6_player_70 (fun r1 T2 => ?_)
  exact g_iret hR rfl dX6_player_73
set_option maxHeartbeats 4000000 in
set_option maxRecDepth 100000 in
theorem b_X6_player_52 {Γ : Cx} {l : Launch} {ω : Wd} {M0 : Mm}  (h : CxOk Γ l ⟨2, 0, 0, 46⟩ 3 ω LM cX6_player yX6_player.cls wsX6_player) (hR : RetI Γ ω LM cX6_player .int) : ∀ (b1 : Int32) (b2 : Int32) (T : Tm), Gq Γ ω LM (uM M0 0) 52 [(0, .ref (th ω 0 0)), (1, .int b1), (2, .int b2)] [] T (m_X6_player_52 b1 b2 T) := by
  intro b1 b2 T
  unfold m_X6_player_52
  refine g_aload_n h 0 dX6_player_52 rfl rfl ?_
  refine g_getR h (index := 7) (j := 0) iM_0_0 (C := RX6) (T := TX6) (N := 13) rfl n_X6_player_6 (by decide) rfl (by decide +kernel) dX6_player_53 ?_
  refine g_iconst h 4 dX6_player_56 (by decide) ?_
  refine g_iconst h 2 dX6_player_57 (by decide) ?_
  refine g_iload_n h 1 dX6_player_58 rfl rfl ?_
  refine g_imul h dX6_player_59 ?_
  refine g_iadd h dX6_player_60 ?_
  refine g_iload_n h 2 dX6_player_61 rfl rfl ?_
  refine g_iadd h dX6_player_62 ?_
  refine g_iald h (v := T 1 (((4 + (2 * b1)) + b2).toNatClampNeg)) (uMr M0 0 _ _ _) iM_0_1 dX6_player_63 ?_
  refine g_ni (fun v1 => ?_)
  exact g_iret hR rfl dX6_player_64
set_option maxHeartbeats 4000000 in
set_option maxRecDepth 100000 in
theorem c_X6_player (l : Launch) (ω : Wd)  (M0 : Mm) (T : Tm) (a1 : Int32) (a2 : Int32) {r : Int32} {T' : Tm} (hm : m_X6_player a1 a2 T = some (r, T')) : MI l yX6_player wsX6_player ⟨2, 0, 0, 46⟩ ω LM [.ref (th ω 0 0), .int a1, .int a2] (uM M0 0 T) r (uM M0 0 T') := by
  refine met_i (cc := cX6_player) (maxL := 3) (ty := .int) (by decide +kernel) rfl (Nat.le_of_ble_eq_true rfl) LM_nd ?_
  intro Γ h hR ht
  suffices K : Gq Γ ω LM (uM M0 0) 0 [(0, .ref (th ω 0 0)), (1, .int a1), (2, .int a2)] [] T (m_X6_player a1 a2 T) from K (r, T') hm ht
  unfold m_X6_player
  refine g_iload_n h 1 dX6_player_0 rfl rfl ?_
  refine g_callP h (As := [.int a1]) (fun r t hG => c_X6_isPlayer l ω M00 a1 hG) 1 rfl gX6_player_X6_isPlayer rfl rfl rfl (by decide +kernel) (by decide) (st0 := _) rfl (Nat.le_of_ble_eq_true rfl) dX6_player_1 (fun r1 => ?_)
  refine g_if_ne h 9 dX6_player_4 (by decide) (fun hc2 => ?_) (fun hc2 => ?_)
  · skip
    refine g_iconst h (-1) dX6_player_7 (by decide) ?_
    exact g_iret hR rfl dX6_player_8
  · skip
    refine g_iload_n h 2 dX6_player_9 rfl rfl ?_
    refine g_if (fun hc3 => ?_) (fun hc3 => ?_)
    · refine g_tsIn h 0 (off := 42) 52 hc3 dX6_player_10 (by decide) (by decide) rfl (by decide) ?_
      exact b_X6_player_52 h hR _ _ _
    refine g_if (fun hc4 => ?_) (fun hc4 => ?_)
    · refine g_tsIn h 1 (off := 42) 52 hc4 dX6_player_10 (by decide) (by decide) rfl (by decide) ?_
      exact b_X6_player_52 h hR _ _ _
    refine g_if (fun hc5 => ?_) (fun hc5 => ?_)
    · refine g_tsIn h 2 (off := 55) 65 hc5 dX6_player_10 (by decide) (by decide) rfl (by decide) ?_
      exact b_X6_player_65 h hR _ _ _
    refine g_if (fun hc6 => ?_) (fun hc6 => ?_)
    · refine g_tsIn h 3 (off := 55) 65 hc6 dX6_player_10 (by decide) (by decide) rfl (by decide) ?_
      exact b_X6_player_65 h hR _ _ _
    refine g_if (fun hc7 => ?_) (fun hc7 => ?_)
    · refine g_tsIn h 4 (off := 55) 65 hc7 dX6_player_10 (by decide) (by decide) rfl (by decide) ?_
      exact b_X6_player_65 h hR _ _ _
    refine g_if (fun hc8 => ?_) (fun hc8 => ?_)
    · refine g_tsIn h 5 (off := 64) 74 hc8 dX6_player_10 (by decide) (by decide) rfl (by decide) ?_
      refine g_aload_n h 0 dX6_player_74 rfl rfl ?_
      refine g_iload_n h 1 dX6_player_75 rfl rfl ?_
      refine g_callI h (As := [.int a1]) (fun t => t) (fun r t hG => c_X6_victories l ω M0 _ a1 hG) iM_0_0 (C := RX6) (T := TX6) (N := 13) rfl 1 rfl gX6_player_X6_victories rfl rfl rfl (by decide +kernel) (by decide) (st0 := _) rfl (Nat.le_of_ble_eq_true rfl) dX6_player_76 (fun r9 T10 => ?_)
      exact g_iret hR rfl dX6_player_79
    refine g_if (fun hc11 => ?_) (fun hc11 => ?_)
    · refine g_tsIn h 6 (off := 70) 80 hc11 dX6_player_10 (by decide) (by decide) rfl (by decide) ?_
      refine g_aload_n h 0 dX6_player_80 rfl rfl ?_
      refine g_iload_n h 1 dX6_player_81 rfl rfl ?_
      refine g_callI h (As := [.int a1]) (fun t => t) (fun r t hG => c_X6_best l ω M0 _ a1 hG) iM_0_0 (C := RX6) (T := TX6) (N := 13) rfl 1 rfl gX6_player_X6_best rfl rfl rfl (by decide +kernel) (by decide) (st0 := _) rfl (Nat.le_of_ble_eq_true rfl) dX6_player_82 (fun r12 T13 => ?_)
      exact g_iret hR rfl dX6_player_85
    refine g_tsOut h 86 (by
        have e0 : ¬ Int32.toInt a2 = 0 := lv_neT hc3 (by decide)
        have e1 : ¬ Int32.toInt a2 = 1 := lv_neT hc4 (by decide)
        have e2 : ¬ Int32.toInt a2 = 2 := lv_neT hc5 (by decide)
        have e3 : ¬ Int32.toInt a2 = 3 := lv_neT hc6 (by decide)
        have e4 : ¬ Int32.toInt a2 = 4 := lv_neT hc7 (by decide)
        have e5 : ¬ Int32.toInt a2 = 5 := lv_neT hc8 (by decide)
        have e6 : ¬ Int32.toInt a2 = 6 := lv_neT hc11 (by decide)
        omega) dX6_player_10 (by decide) ?_
    refine g_bipush h (-2) dX6_player_86 (by decide) ?_
    exact g_iret hR rfl dX6_player_88
theorem n_X6_ranked_6 : ∀ w ∈ wsX60, w ∈ wsX6_ranked := by decide +kernel
set_option maxHeartbeats 4000000 in
set_option maxRecDepth 100000 in
theorem b_X6_ranked_47 {Γ : Cx} {l : Launch} {ω : Wd} {M0 : Mm}  (h : CxOk Γ l ⟨2, 0, 0, 46⟩ 3 ω LM cX6_ranked yX6_ranked.cls wsX6_ranked) (hR : RetI Γ ω LM cX6_ranked .int) (κ9 : Int32 → Int32 → Tm → Option (Int32 × Tm)) (hκ9 : ∀ (b1 : Int32) (b2 : Int32) (T : Tm), Gq Γ ω LM (uM M0 0) 9 [(0, .ref (th ω 0 0)), (1, .int b1), (2, .int b2)] [] T (κ9 b1 b2 T)) : ∀ (b1 : Int32) (b2 : Int32) (T : Tm), Gq Γ ω LM (uM M0 0) 47 [(0, .ref (th ω 0 0)), (1, .int b1), (2, .int b2)] [] T (m_X6_ranked_47 κ9 b1 b2 T) := by
  intro b1 b2 T
  unfold m_X6_ranked_47
  refine g_iinc h (b2 + 1) (lv' := [(2, .int (b2 + 1)), (0, .ref (th ω 0 0)), (1, .int b1)]) dX6_ranked_47 2 rfl (congrArg (fun z => b2 + z) (by decide)) (by decide) [0, 1, 2] rfl ?_
  refine g_goto h (tgt := 9) dX6_ranked_50 (by decide) ?_
  refine g_sub (lv' := [(0, .ref (th ω 0 0)), (1, .int b1), (2, .int (b2 + 1))]) [1, 2, 0] rfl ?_
  exact hκ9 _ _ _
set_option maxHeartbeats 4000000 in
set_option maxRecDepth 100000 in
theorem b_X6_ranked_9 {Γ : Cx} {l : Launch} {ω : Wd} {M0 : Mm}  (h : CxOk Γ l ⟨2, 0, 0, 46⟩ 3 ω LM cX6_ranked yX6_ranked.cls wsX6_ranked) (hR : RetI Γ ω LM cX6_ranked .int) : ∀ (n : Nat) (b1 : Int32) (b2 : Int32) (T : Tm), Gq Γ ω LM (uM M0 0) 9 [(0, .ref (th ω 0 0)), (1, .int b1), (2, .int b2)] [] T (m_X6_ranked_9 n b1 b2 T) := by
  intro n
  induction n with
  | zero =>
    intro b1 b2 T
    rw [m_X6_ranked_9.eq_1]
    exact g_none
  | succ n ih =>
    intro b1 b2 T
    rw [m_X6_ranked_9.eq_2]
    refine g_iload_n h 2 dX6_ranked_9 rfl rfl ?_
    refine g_aload_n h 0 dX6_ranked_10 rfl rfl ?_
    refine g_getR h (index := 7) (j := 0) iM_0_0 (C := RX6) (T := TX6) (N := 13) rfl n_X6_ranked_6 (by decide) rfl (by decide +kernel) dX6_ranked_11 ?_
    refine g_iconst h 0 dX6_ranked_14 (by decide) ?_
    refine g_iald h (v := T 1 ((0 : Int32).toNatClampNeg)) (uMr M0 0 _ _ _) iM_0_1 dX6_ranked_15 ?_
    refine g_ni (fun v1 => ?_)
    refine g_icmp_ge h 53 dX6_ranked_16 (by decide) (fun hc2 => ?_) (fun hc2 => ?_)
    · skip
      refine g_bipush h (-5) dX6_ranked_53 (by decide) ?_
      exact g_iret hR rfl dX6_ranked_55
    · skip
      refine g_aload_n h 0 dX6_ranked_19 rfl rfl ?_
      refine g_getR h (index := 7) (j := 0) iM_0_0 (C := RX6) (T := TX6) (N := 13) rfl n_X6_ranked_6 (by decide) rfl (by decide +kernel) dX6_ranked_20 ?_
      refine g_iconst h 0 dX6_ranked_23 (by decide) ?_
      refine g_iload_n h 2 dX6_ranked_24 rfl rfl ?_
      refine g_callP h (As := [.int 0, .int b2]) (fun r t hG => c_X6_at l ω M00 0 b2 hG) 2 rfl gX6_ranked_X6_at rfl rfl rfl (by decide +kernel) (by decide) (st0 := _) rfl (Nat.le_of_ble_eq_true rfl) dX6_ranked_25 (fun r3 => ?_)
      refine g_bipush h 6 dX6_ranked_28 (by decide) ?_
      refine g_iadd h dX6_ranked_30 ?_
      refine g_iald h (v := T 1 ((r3 + 6).toNatClampNeg)) (uMr M0 0 _ _ _) iM_0_1 dX6_ranked_31 ?_
      refine g_ni (fun v4 => ?_)
      refine g_iconst h 2 dX6_ranked_32 (by decide) ?_
      refine g_icmp_eq h 47 dX6_ranked_33 (by decide) (fun hc5 => ?_) (fun hc5 => ?_)
      · skip
        exact b_X6_ranked_47 h hR _ ih _ _ _
      · skip
        refine g_aload_n h 0 dX6_ranked_36 rfl rfl ?_
        refine g_iload_n h 2 dX6_ranked_37 rfl rfl ?_
        refine g_callI h (As := [.int b2]) (fun t => t) (fun r t hG => c_X6_ahead l ω M0 _ b2 hG) iM_0_0 (C := RX6) (T := TX6) (N := 13) rfl 1 rfl gX6_ranked_X6_ahead rfl rfl rfl (by decide +kernel) (by decide) (st0 := _) rfl (Nat.le_of_ble_eq_true rfl) dX6_ranked_38 (fun r6 T7 => ?_)
        refine g_iload_n h 1 dX6_ranked_41 rfl rfl ?_
        refine g_icmp_ne h 47 dX6_ranked_42 (by decide) (fun hc8 => ?_) (fun hc8 => ?_)
        · skip
          refine g_iload_n h 2 dX6_ranked_45 rfl rfl ?_
          exact g_iret hR rfl dX6_ranked_46
        · skip
          exact b_X6_ranked_47 h hR _ ih _ _ _
set_option maxHeartbeats 4000000 in
set_option maxRecDepth 100000 in
theorem c_X6_ranked (l : Launch) (ω : Wd)  (M0 : Mm) (T : Tm) (a1 : Int32) {r : Int32} {T' : Tm} (hm : m_X6_ranked a1 T = some (r, T')) : MI l yX6_ranked wsX6_ranked ⟨2, 0, 0, 46⟩ ω LM [.ref (th ω 0 0), .int a1] (uM M0 0 T) r (uM M0 0 T') := by
  refine met_i (cc := cX6_ranked) (maxL := 3) (ty := .int) (by decide +kernel) rfl (Nat.le_of_ble_eq_true rfl) LM_nd ?_
  intro Γ h hR ht
  suffices K : Gq Γ ω LM (uM M0 0) 0 [(0, .ref (th ω 0 0)), (1, .int a1)] [] T (m_X6_ranked a1 T) from K (r, T') hm ht
  unfold m_X6_ranked
  refine g_iload_n h 1 dX6_ranked_0 rfl rfl ?_
  refine g_if_ge h 7 dX6_ranked_1 (by decide) (fun hc1 => ?_) (fun hc1 => ?_)
  · skip
    refine g_iconst h 0 dX6_ranked_7 (by decide) ?_
    refine g_istore_n h rfl (lv' := [(2, .int 0), (0, .ref (th ω 0 0)), (1, .int a1)]) dX6_ranked_8 (by decide) [0, 1, 2] rfl ?_
    refine g_sub (lv' := [(0, .ref (th ω 0 0)), (1, .int a1), (2, .int 0)]) [1, 2, 0] rfl ?_
    exact b_X6_ranked_9 h hR fu _ _ _
  · skip
    refine g_bipush h (-2) dX6_ranked_4 (by decide) ?_
    exact g_iret hR rfl dX6_ranked_6
theorem n_X6_restore_6 : ∀ w ∈ wsX60, w ∈ wsX6_restore := by decide +kernel
set_option maxHeartbeats 4000000 in
set_option maxRecDepth 100000 in
theorem c_X6_restore (l : Launch) (ω : Wd)  (M0 : Mm) (T : Tm) {r : Int32} {T' : Tm} (hm : m_X6_restore T = some (r, T')) : MI l yX6_restore wsX6_restore ⟨2, 0, 0, 46⟩ ω LM [.ref (th ω 0 0)] (uM M0 0 T) r (uM M0 0 T') := by
  refine met_i (cc := cX6_restore) (maxL := 1) (ty := .int) (by decide +kernel) rfl (Nat.le_of_ble_eq_true rfl) LM_nd ?_
  intro Γ h hR ht
  suffices K : Gq Γ ω LM (uM M0 0) 0 [(0, .ref (th ω 0 0))] [] T (m_X6_restore T) from K (r, T') hm ht
  unfold m_X6_restore
  refine g_aload_n h 0 dX6_restore_0 rfl rfl ?_
  refine g_getI h (v := T 0 2) (uMr M0 0 _ _ _) (index := 148) (j := 2) iM_0_0 (C := RX6) (T := TX6) (N := 13) rfl n_X6_restore_6 (by decide) rfl (by decide +kernel) dX6_restore_1 ?_
  refine g_ni (fun v1 => ?_)
  refine g_if_ne h 10 dX6_restore_4 (by decide) (fun hc2 => ?_) (fun hc2 => ?_)
  · skip
    refine g_bipush h (-4) dX6_restore_7 (by decide) ?_
    exact g_iret hR rfl dX6_restore_9
  · skip
    refine g_aload_n h 0 dX6_restore_10 rfl rfl ?_
    refine g_callV h (As := []) (fun t => t) (fun r t hG => c_X6_records l ω M0 _ hG) iM_0_0 (C := RX6) (T := TX6) (N := 13) rfl 0 rfl gX6_restore_X6_records rfl rfl rfl (by decide +kernel) (by decide) (st0 := _) rfl (Nat.le_of_ble_eq_true rfl) dX6_restore_11 (fun r3 T4 => ?_)
    refine g_aload_n h 0 dX6_restore_14 rfl rfl ?_
    refine g_bipush h 6 dX6_restore_15 (by decide) ?_
    refine g_iconst h 0 dX6_restore_17 (by decide) ?_
    refine g_callV h (As := [.int 6, .int 0]) (fun t => t) (fun r t hG => c_X6_copies l ω M0 _ 6 0 hG) iM_0_0 (C := RX6) (T := TX6) (N := 13) rfl 2 rfl gX6_restore_X6_copies rfl rfl rfl (by decide +kernel) (by decide) (st0 := _) rfl (Nat.le_of_ble_eq_true rfl) dX6_restore_18 (fun r5 T6 => ?_)
    refine g_aload_n h 0 dX6_restore_21 rfl rfl ?_
    refine g_bipush h (-5) dX6_restore_22 (by decide) ?_
    refine g_iconst h 0 dX6_restore_24 (by decide) ?_
    refine g_callI h (As := [.int (-5), .int 0]) (fun t => t) (fun r t hG => c_X6_conkers l ω M0 _ (-5) 0 hG) iM_0_0 (C := RX6) (T := TX6) (N := 13) rfl 2 rfl gX6_restore_X6_conkers rfl rfl rfl (by decide +kernel) (by decide) (st0 := _) rfl (Nat.le_of_ble_eq_true rfl) dX6_restore_25 (fun r7 T8 => ?_)
    exact g_iret hR rfl dX6_restore_28
theorem n_X6_round_6 : ∀ w ∈ wsX60, w ∈ wsX6_round := by decide +kernel
set_option maxHeartbeats 4000000 in
set_option maxRecDepth 100000 in
theorem b_X6_round_113 {Γ : Cx} {l : Launch} {ω : Wd} {M0 : Mm}  (h : CxOk Γ l ⟨3, 0, 0, 80⟩ 9 ω LM cX6_round yX6_round.cls wsX6_round) (hR : RetI Γ ω LM cX6_round .int) (κ29 : Int32 → Int32 → Tm → Option (Int32 × Tm)) (hκ29 : ∀ (b2 : Int32) (b3 : Int32) (T : Tm), Gq Γ ω LM (uM M0 0) 29 [(0, .ref (th ω 0 0)), (2, .int b2), (3, .int b3)] [] T (κ29 b2 b3 T)) (κ83 : Int32 → Int32 → Int32 → Int32 → Int32 → Int32 → Int32 → Tm → Option (Int32 × Tm)) (hκ83 : ∀ (b2 : Int32) (b3 : Int32) (b4 : Int32) (b5 : Int32) (b6 : Int32) (b7 : Int32) (b8 : Int32) (T : Tm), Gq Γ ω LM (uM M0 0) 83 [(0, .ref (th ω 0 0)), (2, .int b2), (3, .int b3), (4, .int b4), (5, .int b5), (6, .int b6), (7, .int b7), (8, .int b8)] [] T (κ83 b2 b3 b4 b5 b6 b7 b8 T)) : ∀ (b2 : Int32) (b3 : Int32) (b4 : Int32) (b5 : Int32) (b6 : Int32) (b7 : Int32) (b8 : Int32) (T : Tm), Gq Γ ω LM (uM M0 0) 113 [(0, .ref (th ω 0 0)), (2, .int b2), (3, .int b3), (4, .int b4), (5, .int b5), (6, .int b6), (7, .int b7), (8, .int b8)] [] T (m_X6_round_113 κ29 κ83 b2 b3 b4 b5 b6 b7 b8 T) := by
  intro b2 b3 b4 b5 b6 b7 b8 T
  unfold m_X6_round_113
  refine g_iinc h (b8 + 1) (lv' := [(8, .int (b8 + 1)), (0, .ref (th ω 0 0)), (2, .int b2), (3, .int b3), (4, .int b4), (5, .int b5), (6, .int b6), (7, .int b7)]) dX6_round_113 7 rfl (congrArg (fun z => b8 + z) (by decide)) (by decide) [0, 1, 2, 3, 4, 5, 6, 7] rfl ?_
  refine g_goto h (tgt := 83) dX6_round_116 (by decide) ?_
  refine g_sub (lv' := [(0, .ref (th ω 0 0)), (2, .int b2), (3, .int b3), (4, .int b4), (5, .int b5), (6, .int b6), (7, .int b7), (8, .int (b8 + 1))]) [1, 2, 3, 4, 5, 6, 7, 0] rfl ?_
  exact hκ83 _ _ _ _ _ _ _ _
set_option maxHeartbeats 4000000 in
set_option maxRecDepth 100000 in
theorem b_X6_round_83 {Γ : Cx} {l : Launch} {ω : Wd} {M0 : Mm}  (h : CxOk Γ l ⟨3, 0, 0, 80⟩ 9 ω LM cX6_round yX6_round.cls wsX6_round) (hR : RetI Γ ω LM cX6_round .int) (κ29 : Int32 → Int32 → Tm → Option (Int32 × Tm)) (hκ29 : ∀ (b2 : Int32) (b3 : Int32) (T : Tm), Gq Γ ω LM (uM M0 0) 29 [(0, .ref (th ω 0 0)), (2, .int b2), (3, .int b3)] [] T (κ29 b2 b3 T)) : ∀ (n : Nat) (b2 : Int32) (b3 : Int32) (b4 : Int32) (b5 : Int32) (b6 : Int32) (b7 : Int32) (b8 : Int32) (T : Tm), Gq Γ ω LM (uM M0 0) 83 [(0, .ref (th ω 0 0)), (2, .int b2), (3, .int b3), (4, .int b4), (5, .int b5), (6, .int b6), (7, .int b7), (8, .int b8)] [] T (m_X6_round_83 κ29 n b2 b3 b4 b5 b6 b7 b8 T) := by
  intro n
  induction n with
  | zero =>
    intro b2 b3 b4 b5 b6 b7 b8 T
    rw [m_X6_round_83.eq_1]
    exact g_none
  | succ n ih =>
    intro b2 b3 b4 b5 b6 b7 b8 T
    rw [m_X6_round_83.eq_2]
    refine g_iload h 7 dX6_round_83 rfl ?_
    refine g_iload_n h 2 dX6_round_85 rfl rfl ?_
    refine g_icmp_ge h 119 dX6_round_86 (by decide) (fun hc1 => ?_) (fun hc1 => ?_)
    · skip
      refine g_iload h 6 dX6_round_119 rfl ?_
      refine g_istore_n h rfl (lv' := [(3, .int b7), (0, .ref (th ω 0 0)), (2, .int b2), (4, .int b4), (5, .int b5), (6, .int b6), (7, .int b7), (8, .int b8)]) dX6_round_121 (by decide) [0, 1, 2, 3, 4, 5, 6, 7] rfl ?_
      refine g_aload_n h 1 dX6_round_122 rfl rfl ?_
      refine g_iconst h 0 dX6_round_123 (by decide) ?_
      refine g_iload h 4 dX6_round_124 rfl ?_
      refine g_iload h 5 dX6_round_126 rfl ?_
      refine g_callI h (As := [.int 0, .int b5, .int b6]) (fun t => t) (fun r t hG => c_X6_fights l ω M0 _ 0 b5 b6 hG) iM_0_0 (C := RX6) (T := TX6) (N := 13) rfl 3 rfl gX6_round_X6_fights rfl rfl rfl (by decide +kernel) (by decide) (st0 := _) rfl (Nat.le_of_ble_eq_true rfl) dX6_round_128 (fun r2 T3 => ?_)
      refine g_istore h (lv' := [(8, .int r2), (3, .int b7), (0, .ref (th ω 0 0)), (2, .int b2), (4, .int b4), (5, .int b5), (6, .int b6), (7, .int b7)]) dX6_round_131 (by decide) [0, 1, 2, 3, 4, 5, 6, 7] rfl ?_
      refine g_iinc h (b2 + 1) (lv' := [(2, .int (b2 + 1)), (8, .int r2), (3, .int b7), (0, .ref (th ω 0 0)), (4, .int b4), (5, .int b5), (6, .int b6), (7, .int b7)]) dX6_round_133 3 rfl (congrArg (fun z => b2 + z) (by decide)) (by decide) [0, 1, 2, 3, 4, 5, 6, 7] rfl ?_
      refine g_goto h (tgt := 29) dX6_round_136 (by decide) ?_
      refine g_sub (lv' := [(0, .ref (th ω 0 0)), (2, .int (b2 + 1)), (3, .int b7)]) [3, 0, 2] rfl ?_
      exact hκ29 _ _ _
    · skip
      refine g_iload h 7 dX6_round_89 rfl ?_
      refine g_iload h 3 dX6_round_91 rfl ?_
      refine g_icmp_eq h 113 dX6_round_93 (by decide) (fun hc4 => ?_) (fun hc4 => ?_)
      · skip
        exact b_X6_round_113 h hR _ hκ29 _ ih _ _ _ _ _ _ _ _
      · skip
        refine g_aload_n h 0 dX6_round_96 rfl rfl ?_
        refine g_getR h (index := 16) (j := 6) iM_0_0 (C := RX6) (T := TX6) (N := 13) rfl n_X6_round_6 (by decide) rfl (by decide +kernel) dX6_round_97 ?_
        refine g_iload h 6 dX6_round_100 rfl ?_
        refine g_aload_n h 0 dX6_round_102 rfl rfl ?_
        refine g_getR h (index := 16) (j := 6) iM_0_0 (C := RX6) (T := TX6) (N := 13) rfl n_X6_round_6 (by decide) rfl (by decide +kernel) dX6_round_103 ?_
        refine g_iload h 7 dX6_round_106 rfl ?_
        refine g_iald h (v := T 3 b8.toNatClampNeg) (uMr M0 0 _ _ _) iM_0_3 dX6_round_108 ?_
        refine g_ni (fun v5 => ?_)
        refine g_iast h (x' := wT T 3 b7.toNatClampNeg v5) (wM_uM M0 0 _ _ _ _).symm iM_0_3 dX6_round_109 ?_
        refine g_nm (fun T6 => ?_)
        refine g_iinc h (b7 + 1) (lv' := [(7, .int (b7 + 1)), (0, .ref (th ω 0 0)), (2, .int b2), (3, .int b3), (4, .int b4), (5, .int b5), (6, .int b6), (8, .int b8)]) dX6_round_110 6 rfl (congrArg (fun z => b7 + z) (by decide)) (by decide) [0, 1, 2, 3, 4, 5, 6, 7] rfl ?_
        refine g_sub (lv' := [(0, .ref (th ω 0 0)), (2, .int b2), (3, .int b3), (4, .int b4), (5, .int b5), (6, .int b6), (7, .int (b7 + 1)), (8, .int b8)]) [1, 2, 3, 4, 5, 6, 0, 7] rfl ?_
        exact b_X6_round_113 h hR _ hκ29 _ ih _ _ _ _ _ _ _ _
set_option maxHeartbeats 4000000 in
set_option maxRecDepth 100000 in
theorem b_X6_round_29 {Γ : Cx} {l : Launch} {ω : Wd} {M0 : Mm}  (h : CxOk Γ l ⟨3, 0, 0, 80⟩ 9 ω LM cX6_round yX6_round.cls wsX6_round) (hR : RetI Γ ω LM cX6_round .int) : ∀ (n : Nat) (b2 : Int32) (b3 : Int32) (T : Tm), Gq Γ ω LM (uM M0 0) 29 [(0, .ref (th ω 0 0)), (2, .int b2), (3, .int b3)] [] T (m_X6_round_29 n b2 b3 T) := by
  intro n
  induction n with
  | zero =>
    intro b2 b3 T
    rw [m_X6_round_29.eq_1]
    exact g_none
  | succ n ih =>
    intro b2 b3 T
    rw [m_X6_round_29.eq_2]
    refine g_iload_n h 2 dX6_round_29 rfl rfl ?_
    refine g_iconst h 1 dX6_round_30 (by decide) ?_
    refine g_icmp_le h 139 dX6_round_31 (by decide) (fun hc1 => ?_) (fun hc1 => ?_)
    · skip
      refine g_iload_n h 1 dX6_round_139 rfl rfl ?_
      exact g_iret hR rfl dX6_round_140
    · skip
      refine g_aload_n h 0 dX6_round_34 rfl rfl ?_
      refine g_callV h (As := []) (fun t => t) (fun r t hG => c_X6_goesOn l ω M0 _ hG) iM_0_0 (C := RX6) (T := TX6) (N := 13) rfl 0 rfl gX6_round_X6_goesOn rfl rfl rfl (by decide +kernel) (by decide) (st0 := _) rfl (Nat.le_of_ble_eq_true rfl) dX6_round_35 (fun r2 T3 => ?_)
      refine g_iconst h 1 dX6_round_38 (by decide) ?_
      refine g_aload_n h 0 dX6_round_39 rfl rfl ?_
      refine g_getI h (v := T3 0 5) (uMr M0 0 _ _ _) (index := 44) (j := 5) iM_0_0 (C := RX6) (T := TX6) (N := 13) rfl n_X6_round_6 (by decide) rfl (by decide +kernel) dX6_round_40 ?_
      refine g_ni (fun v4 => ?_)
      refine g_iload_n h 2 dX6_round_43 rfl rfl ?_
      refine g_iconst h 1 dX6_round_44 (by decide) ?_
      refine g_isub h dX6_round_45 ?_
      refine g_irem h dX6_round_46 ?_
      refine g_iadd h dX6_round_47 ?_
      refine g_istore h (lv' := [(4, .int (1 + (v4 - v4 / (b3 - 1) * (b3 - 1)))), (0, .ref (th ω 0 0)), (2, .int b2), (3, .int b3)]) dX6_round_48 (by decide) [0, 1, 2, 3] rfl ?_
      refine g_aload_n h 1 dX6_round_50 rfl rfl ?_
      refine g_getR h (index := 19) (j := 7) iM_0_0 (C := RX6) (T := TX6) (N := 13) rfl n_X6_round_6 (by decide) rfl (by decide +kernel) dX6_round_51 ?_
      refine g_aload_n h 1 dX6_round_54 rfl rfl ?_
      refine g_getR h (index := 16) (j := 6) iM_0_0 (C := RX6) (T := TX6) (N := 13) rfl n_X6_round_6 (by decide) rfl (by decide +kernel) dX6_round_55 ?_
      refine g_iconst h 0 dX6_round_58 (by decide) ?_
      refine g_iald h (v := T3 3 ((0 : Int32).toNatClampNeg)) (uMr M0 0 _ _ _) iM_0_3 dX6_round_59 ?_
      refine g_ni (fun v5 => ?_)
      refine g_iald h (v := T3 4 v5.toNatClampNeg) (uMr M0 0 _ _ _) iM_0_4 dX6_round_60 ?_
      refine g_ni (fun v6 => ?_)
      refine g_istore h (lv' := [(5, .int v6), (4, .int (1 + (v4 - v4 / (b3 - 1) * (b3 - 1)))), (0, .ref (th ω 0 0)), (2, .int b2), (3, .int b3)]) dX6_round_61 (by decide) [0, 1, 2, 3, 4] rfl ?_
      refine g_aload_n h 2 dX6_round_63 rfl rfl ?_
      refine g_getR h (index := 19) (j := 7) iM_0_0 (C := RX6) (T := TX6) (N := 13) rfl n_X6_round_6 (by decide) rfl (by decide +kernel) dX6_round_64 ?_
      refine g_aload_n h 2 dX6_round_67 rfl rfl ?_
      refine g_getR h (index := 16) (j := 6) iM_0_0 (C := RX6) (T := TX6) (N := 13) rfl n_X6_round_6 (by decide) rfl (by decide +kernel) dX6_round_68 ?_
      refine g_iload h 1 dX6_round_71 rfl ?_
      refine g_iald h (v := T3 3 ((1 + (v4 - v4 / (b3 - 1) * (b3 - 1))).toNatClampNeg)) (uMr M0 0 _ _ _) iM_0_3 dX6_round_73 ?_
      refine g_ni (fun v7 => ?_)
      refine g_iald h (v := T3 4 v7.toNatClampNeg) (uMr M0 0 _ _ _) iM_0_4 dX6_round_74 ?_
      refine g_ni (fun v8 => ?_)
      refine g_istore h (lv' := [(6, .int v8), (5, .int v6), (4, .int (1 + (v4 - v4 / (b3 - 1) * (b3 - 1)))), (0, .ref (th ω 0 0)), (2, .int b2), (3, .int b3)]) dX6_round_75 (by decide) [0, 1, 2, 3, 4, 5] rfl ?_
      refine g_iconst h 0 dX6_round_77 (by decide) ?_
      refine g_istore h (lv' := [(7, .int 0), (6, .int v8), (5, .int v6), (4, .int (1 + (v4 - v4 / (b3 - 1) * (b3 - 1)))), (0, .ref (th ω 0 0)), (2, .int b2), (3, .int b3)]) dX6_round_78 (by decide) [0, 1, 2, 3, 4, 5, 6] rfl ?_
      refine g_iconst h 1 dX6_round_80 (by decide) ?_
      refine g_istore h (lv' := [(8, .int 1), (7, .int 0), (6, .int v8), (5, .int v6), (4, .int (1 + (v4 - v4 / (b3 - 1) * (b3 - 1)))), (0, .ref (th ω 0 0)), (2, .int b2), (3, .int b3)]) dX6_round_81 (by decide) [0, 1, 2, 3, 4, 5, 6, 7] rfl ?_
      refine g_sub (lv' := [(0, .ref (th ω 0 0)), (2, .int b2), (3, .int b3), (4, .int (1 + (v4 - v4 / (b3 - 1) * (b3 - 1)))), (5, .int v6), (6, .int v8), (7, .int 0), (8, .int 1)]) [5, 6, 7, 4, 3, 2, 1, 0] rfl ?_
      exact b_X6_round_83 h hR _ ih fu _ _ _ _ _ _ _ _
set_option maxHeartbeats 4000000 in
set_option maxRecDepth 100000 in
theorem c_X6_round (l : Launch) (ω : Wd)  (M0 : Mm) (T : Tm) (a1 : Int32) {r : Int32} {T' : Tm} (hm : m_X6_round a1 T = some (r, T')) : MI l yX6_round wsX6_round ⟨3, 0, 0, 80⟩ ω LM [.ref (th ω 0 0), .int a1] (uM M0 0 T) r (uM M0 0 T') := by
  refine met_i (cc := cX6_round) (maxL := 9) (ty := .int) (by decide +kernel) rfl (Nat.le_of_ble_eq_true rfl) LM_nd ?_
  intro Γ h hR ht
  suffices K : Gq Γ ω LM (uM M0 0) 0 [(0, .ref (th ω 0 0)), (1, .int a1)] [] T (m_X6_round a1 T) from K (r, T') hm ht
  unfold m_X6_round
  refine g_iload_n h 1 dX6_round_0 rfl rfl ?_
  refine g_iconst h 0 dX6_round_1 (by decide) ?_
  refine g_ldc h 65535 dX6_round_2 (by decide +kernel) ?_
  refine g_callP h (As := [.int a1, .int 0, .int 65535]) (fun r t hG => c_X6_in l ω M00 a1 0 65535 hG) 3 rfl gX6_round_X6_in rfl rfl rfl (by decide +kernel) (by decide) (st0 := _) rfl (Nat.le_of_ble_eq_true rfl) dX6_round_4 (fun r1 => ?_)
  refine g_if_ne h 13 dX6_round_7 (by decide) (fun hc2 => ?_) (fun hc2 => ?_)
  · skip
    refine g_bipush h (-2) dX6_round_10 (by decide) ?_
    exact g_iret hR rfl dX6_round_12
  · skip
    refine g_aload_n h 0 dX6_round_13 rfl rfl ?_
    refine g_callV h (As := []) (fun t => t) (fun r t hG => c_X6_records l ω M0 _ hG) iM_0_0 (C := RX6) (T := TX6) (N := 13) rfl 0 rfl gX6_round_X6_records rfl rfl rfl (by decide +kernel) (by decide) (st0 := _) rfl (Nat.le_of_ble_eq_true rfl) dX6_round_14 (fun r3 T4 => ?_)
    refine g_aload_n h 0 dX6_round_17 rfl rfl ?_
    refine g_iload_n h 1 dX6_round_18 rfl rfl ?_
    refine g_putI h (x' := wT T4 0 5 a1) (wM_uM M0 0 _ _ _ _).symm (index := 44) (j := 5) iM_0_0 (C := RX6) (T := TX6) (N := 13) rfl n_X6_round_6 tyX6_ok nmX6 (by decide) rfl (by decide +kernel) rfl (ty := .int) (by decide +kernel) rfl rfl dX6_round_19 ?_
    refine g_nm (fun T5 => ?_)
    refine g_iconst h 0 dX6_round_22 (by decide) ?_
    refine g_istore_n h rfl (lv' := [(2, .int 0), (0, .ref (th ω 0 0)), (1, .int a1)]) dX6_round_23 (by decide) [0, 1, 2] rfl ?_
    refine g_aload_n h 1 dX6_round_24 rfl rfl ?_
    refine g_callI h (As := []) (fun t => t) (fun r t hG => c_X6_lines l ω M0 _ hG) iM_0_0 (C := RX6) (T := TX6) (N := 13) rfl 0 rfl gX6_round_X6_lines rfl rfl rfl (by decide +kernel) (by decide) (st0 := _) rfl (Nat.le_of_ble_eq_true rfl) dX6_round_25 (fun r6 T7 => ?_)
    refine g_istore_n h rfl (lv' := [(3, .int r6), (2, .int 0), (0, .ref (th ω 0 0)), (1, .int a1)]) dX6_round_28 (by decide) [0, 1, 2, 3] rfl ?_
    refine g_sub (lv' := [(0, .ref (th ω 0 0)), (2, .int 0), (3, .int r6)]) [2, 1, 0] rfl ?_
    exact b_X6_round_29 h hR fu _ _ _
