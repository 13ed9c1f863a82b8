/-! WALKS (written by wip/whole/gen.py): X5_share, X5_stamp, X5_strike, X5_thread, X5_undo, X5_winner, X6_at, X6_flag, X6_ahead, X6_in, X6_append, X6_best, X6_isConker, X6_copies, X6_records, X6_boast, X6_boasts -/
theorem n_X5_share_5 : ∀ w ∈ wsX50, w ∈ wsX5_share := by decide +kernel
set_option maxHeartbeats 4000000 in
set_option maxRecDepth 100000 in
theorem b_X5_share_21 {Γ : Cx} {l : Launch} {ω : Wd}  (h : CxOk Γ l ⟨2, 0, 0, 45⟩ 3 ω LC cX5_share yX5_share.cls wsX5_share) (hR : RetF Γ ω LC cX5_share) : ∀ (M : Mm), Gq Γ ω LC eI 21 [] [] M (m_X5_share_21 M) := by
  intro M
  unfold m_X5_share_21
  refine g_fconst0 h dX5_share_21 ?_
  exact g_fret hR dX5_share_22
set_option maxHeartbeats 4000000 in
set_option maxRecDepth 100000 in
theorem c_X5_share (l : Launch) (ω : Wd)  (M : Mm) (a1 : Int32) {r : Int32} {M' : Mm} (hm : m_X5_share a1 M = some (r, M')) : MF l yX5_share wsX5_share ⟨2, 0, 0, 45⟩ ω LC [.ref (th ω 0 0), .int a1] M r M' := by
  refine met_f (cc := cX5_share) (maxL := 3) (r := r) (by decide +kernel) rfl (Nat.le_of_ble_eq_true rfl) LC_nd ?_
  intro Γ h hR ht
  suffices K : Gq Γ ω LC eI 0 [(0, .ref (th ω 0 0)), (1, .int a1)] [] M (m_X5_share a1 M) from K (r, M') hm ht
  unfold m_X5_share
  refine g_aload_n h 0 dX5_share_0 rfl rfl ?_
  refine g_getR h (index := 10) (j := 0) iC_0_0 (C := RX5) (T := TX5) (N := 8) rfl n_X5_share_5 (by decide) rfl (by decide +kernel) dX5_share_1 ?_
  refine g_iconst h (-1) dX5_share_4 (by decide) ?_
  refine g_callI h (As := [.int (-1)]) (fun t => uM M 1 t) (fun r t hG => MI_self (c_X4_victoriesOf l ω 1 kS1 M _ (-1) hG)) (inS kS1 0 (by decide)) (C := RX4) (T := TX4) (N := 13) rfl 1 rfl gX5_share_X4_victoriesOf rfl rfl rfl (by decide +kernel) (by decide) (st0 := _) rfl (Nat.le_of_ble_eq_true rfl) dX5_share_5 (fun r1 M2 => ?_)
  refine g_nm (fun M3 => ?_)
  refine g_istore_n h rfl (lv' := [(2, .int r1), (0, .ref (th ω 0 0)), (1, .int a1)]) dX5_share_8 (by decide) [0, 1, 2] rfl ?_
  refine g_iload_n h 2 dX5_share_9 rfl rfl ?_
  refine g_callP h (As := [.int a1]) (fun r t hG => c_X5_isPlayer l ω M00 a1 hG) 1 rfl gX5_share_X5_isPlayer rfl rfl rfl (by decide +kernel) (by decide) (st0 := _) rfl (Nat.le_of_ble_eq_true rfl) dX5_share_10 (fun r4 => ?_)
  refine g_if_eq h 21 dX5_share_13 (by decide) (fun hc5 => ?_) (fun hc5 => ?_)
  · skip
    refine g_sub (lv' := []) [] rfl ?_
    exact b_X5_share_21 h hR _
  · skip
    refine g_iload_n h 0 dX5_share_16 rfl rfl ?_
    refine g_iconst h 1 dX5_share_17 (by decide) ?_
    refine g_icmp_ge h 23 dX5_share_18 (by decide) (fun hc6 => ?_) (fun hc6 => ?_)
    · skip
      refine g_aload_n h 1 dX5_share_23 rfl rfl ?_
      refine g_getR h (index := 10) (j := 0) iC_0_0 (C := RX5) (T := TX5) (N := 8) rfl n_X5_share_5 (by decide) rfl (by decide +kernel) dX5_share_24 ?_
      refine g_iload_n h 2 dX5_share_27 rfl rfl ?_
      refine g_callI h (As := [.int a1]) (fun t => uM M3 1 t) (fun r t hG => MI_self (c_X4_victoriesOf l ω 1 kS1 M3 _ a1 hG)) (inS kS1 0 (by decide)) (C := RX4) (T := TX4) (N := 13) rfl 1 rfl gX5_share_X4_victoriesOf rfl rfl rfl (by decide +kernel) (by decide) (st0 := _) rfl (Nat.le_of_ble_eq_true rfl) dX5_share_28 (fun r7 M8 => ?_)
      refine g_nm (fun M9 => ?_)
      refine g_i2f h dX5_share_31 ?_
      refine g_iload_n h 0 dX5_share_32 rfl rfl ?_
      refine g_i2f h dX5_share_33 ?_
      refine g_fdiv h dX5_share_34 ?_
      exact g_fret hR dX5_share_35
    · skip
      refine g_sub (lv' := []) [] rfl ?_
      exact b_X5_share_21 h hR _
theorem n_X5_stamp_5 : ∀ w ∈ wsX50, w ∈ wsX5_stamp := by decide +kernel
set_option maxHeartbeats 4000000 in
set_option maxRecDepth 100000 in
theorem c_X5_stamp (l : Launch) (ω : Wd)  (M : Mm) (a1 : Int32) {r : Int32} {M' : Mm} (hm : m_X5_stamp a1 M = some (r, M')) : MI l yX5_stamp wsX5_stamp ⟨3, 0, 0, 82⟩ ω LC [.ref (th ω 0 0), .int a1] M r M' := by
  refine met_i (cc := cX5_stamp) (maxL := 3) (ty := .int) (by decide +kernel) rfl (Nat.le_of_ble_eq_true rfl) LC_nd ?_
  intro Γ h hR ht
  suffices K : Gq Γ ω LC eI 0 [(0, .ref (th ω 0 0)), (1, .int a1)] [] M (m_X5_stamp a1 M) from K (r, M') hm ht
  unfold m_X5_stamp
  refine g_aload_n h 0 dX5_stamp_0 rfl rfl ?_
  refine g_getR h (index := 10) (j := 0) iC_0_0 (C := RX5) (T := TX5) (N := 8) rfl n_X5_stamp_5 (by decide) rfl (by decide +kernel) dX5_stamp_1 ?_
  refine g_iload_n h 1 dX5_stamp_4 rfl rfl ?_
  refine g_callI h (As := [.int a1]) (fun t => uM M 1 t) (fun r t hG => MI_self (c_X4_fallenError l ω 1 kS1 M _ a1 hG)) (inS kS1 0 (by decide)) (C := RX4) (T := TX4) (N := 13) rfl 1 rfl gX5_stamp_X4_fallenError rfl rfl rfl (by decide +kernel) (by decide) (st0 := _) rfl (Nat.le_of_ble_eq_true rfl) dX5_stamp_5 (fun r1 M2 => ?_)
  refine g_nm (fun M3 => ?_)
  refine g_istore_n h rfl (lv' := [(2, .int r1), (0, .ref (th ω 0 0)), (1, .int a1)]) dX5_stamp_8 (by decide) [0, 1, 2] rfl ?_
  refine g_iload_n h 0 dX5_stamp_9 rfl rfl ?_
  refine g_if_eq h 15 dX5_stamp_10 (by decide) (fun hc4 => ?_) (fun hc4 => ?_)
  · skip
    refine g_aload_n h 1 dX5_stamp_15 rfl rfl ?_
    refine g_getR h (index := 25) (j := 3) iC_0_0 (C := RX5) (T := TX5) (N := 8) rfl n_X5_stamp_5 (by decide) rfl (by decide +kernel) dX5_stamp_16 ?_
    refine g_aload_n h 1 dX5_stamp_19 rfl rfl ?_
    refine g_getR h (index := 10) (j := 0) iC_0_0 (C := RX5) (T := TX5) (N := 8) rfl n_X5_stamp_5 (by decide) rfl (by decide +kernel) dX5_stamp_20 ?_
    refine g_callV h (As := [.ref (th ω 1 0)]) (fun t => t) (fun r t hG => c_X1_keep l ω _ hG) iC_12_0 (C := RX1) (T := TX1) (N := 2) rfl 1 rfl gX5_stamp_X1_keep rfl rfl rfl (by decide +kernel) (by decide) (st0 := _) rfl (Nat.le_of_ble_eq_true rfl) dX5_stamp_23 (fun r5 M6 => ?_)
    refine g_aload_n h 1 dX5_stamp_26 rfl rfl ?_
    refine g_getR h (index := 10) (j := 0) iC_0_0 (C := RX5) (T := TX5) (N := 8) rfl n_X5_stamp_5 (by decide) rfl (by decide +kernel) dX5_stamp_27 ?_
    refine g_iload_n h 2 dX5_stamp_30 rfl rfl ?_
    refine g_callI h (As := [.int a1]) (fun t => uM M6 1 t) (fun r t hG => MI_self (c_X4_crush l ω 1 kS1 M6 _ a1 hG)) (inS kS1 0 (by decide)) (C := RX4) (T := TX4) (N := 13) rfl 1 rfl gX5_stamp_X4_crush rfl rfl rfl (by decide +kernel) (by decide) (st0 := _) rfl (Nat.le_of_ble_eq_true rfl) dX5_stamp_31 (fun r7 M8 => ?_)
    refine g_nm (fun M9 => ?_)
    exact g_iret hR rfl dX5_stamp_34
  · skip
    refine g_iload_n h 0 dX5_stamp_13 rfl rfl ?_
    exact g_iret hR rfl dX5_stamp_14
theorem n_X5_strike_5 : ∀ w ∈ wsX50, w ∈ wsX5_strike := by decide +kernel
set_option maxHeartbeats 4000000 in
set_option maxRecDepth 100000 in
theorem c_X5_strike (l : Launch) (ω : Wd)  (M : Mm) (a1 : Int32) (a2 : Int32) (a3 : Int32) {r : Int32} {M' : Mm} (hm : m_X5_strike a1 a2 a3 M = some (r, M')) : MI l yX5_strike wsX5_strike ⟨4, 0, 0, 93⟩ ω LC [.ref (th ω 0 0), .int a1, .int a2, .int a3] M r M' := by
  refine met_i (cc := cX5_strike) (maxL := 5) (ty := .int) (by decide +kernel) rfl (Nat.le_of_ble_eq_true rfl) LC_nd ?_
  intro Γ h hR ht
  suffices K : Gq Γ ω LC eI 0 [(0, .ref (th ω 0 0)), (1, .int a1), (2, .int a2), (3, .int a3)] [] M (m_X5_strike a1 a2 a3 M) from K (r, M') hm ht
  unfold m_X5_strike
  refine g_aload_n h 0 dX5_strike_0 rfl rfl ?_
  refine g_getR h (index := 10) (j := 0) iC_0_0 (C := RX5) (T := TX5) (N := 8) rfl n_X5_strike_5 (by decide) rfl (by decide +kernel) dX5_strike_1 ?_
  refine g_iload_n h 1 dX5_strike_4 rfl rfl ?_
  refine g_iload_n h 2 dX5_strike_5 rfl rfl ?_
  refine g_iload_n h 3 dX5_strike_6 rfl rfl ?_
  refine g_callI h (As := [.int a1, .int a2, .int a3]) (fun t => uM M 1 t) (fun r t hG => MI_self (c_X4_strikeError l ω 1 kS1 M _ a1 a2 a3 hG)) (inS kS1 0 (by decide)) (C := RX4) (T := TX4) (N := 13) rfl 3 rfl gX5_strike_X4_strikeError rfl rfl rfl (by decide +kernel) (by decide) (st0 := _) rfl (Nat.le_of_ble_eq_true rfl) dX5_strike_7 (fun r1 M2 => ?_)
  refine g_nm (fun M3 => ?_)
  refine g_istore h (lv' := [(4, .int r1), (0, .ref (th ω 0 0)), (1, .int a1), (2, .int a2), (3, .int a3)]) dX5_strike_10 (by decide) [0, 1, 2, 3, 4] rfl ?_
  refine g_iload h 0 dX5_strike_12 rfl ?_
  refine g_if_eq h 20 dX5_strike_14 (by decide) (fun hc4 => ?_) (fun hc4 => ?_)
  · skip
    refine g_aload_n h 1 dX5_strike_20 rfl rfl ?_
    refine g_getR h (index := 25) (j := 3) iC_0_0 (C := RX5) (T := TX5) (N := 8) rfl n_X5_strike_5 (by decide) rfl (by decide +kernel) dX5_strike_21 ?_
    refine g_aload_n h 1 dX5_strike_24 rfl rfl ?_
    refine g_getR h (index := 10) (j := 0) iC_0_0 (C := RX5) (T := TX5) (N := 8) rfl n_X5_strike_5 (by decide) rfl (by decide +kernel) dX5_strike_25 ?_
    refine g_callV h (As := [.ref (th ω 1 0)]) (fun t => t) (fun r t hG => c_X1_keep l ω _ hG) iC_12_0 (C := RX1) (T := TX1) (N := 2) rfl 1 rfl gX5_strike_X1_keep rfl rfl rfl (by decide +kernel) (by decide) (st0 := _) rfl (Nat.le_of_ble_eq_true rfl) dX5_strike_28 (fun r5 M6 => ?_)
    refine g_aload_n h 1 dX5_strike_31 rfl rfl ?_
    refine g_getR h (index := 10) (j := 0) iC_0_0 (C := RX5) (T := TX5) (N := 8) rfl n_X5_strike_5 (by decide) rfl (by decide +kernel) dX5_strike_32 ?_
    refine g_iload_n h 2 dX5_strike_35 rfl rfl ?_
    refine g_iload_n h 3 dX5_strike_36 rfl rfl ?_
    refine g_iload_n h 4 dX5_strike_37 rfl rfl ?_
    refine g_callI h (As := [.int a1, .int a2, .int a3]) (fun t => uM M6 1 t) (fun r t hG => MI_self (c_X4_hit l ω 1 kS1 M6 _ a1 a2 a3 hG)) (inS kS1 0 (by decide)) (C := RX4) (T := TX4) (N := 13) rfl 3 rfl gX5_strike_X4_hit rfl rfl rfl (by decide +kernel) (by decide) (st0 := _) rfl (Nat.le_of_ble_eq_true rfl) dX5_strike_38 (fun r7 M8 => ?_)
    refine g_nm (fun M9 => ?_)
    exact g_iret hR rfl dX5_strike_41
  · skip
    refine g_iload h 0 dX5_strike_17 rfl ?_
    exact g_iret hR rfl dX5_strike_19
theorem n_X5_thread_4 : ∀ w ∈ wsX40, w ∈ wsX5_thread := by decide +kernel
theorem n_X5_thread_5 : ∀ w ∈ wsX50, w ∈ wsX5_thread := by decide +kernel
set_option maxHeartbeats 4000000 in
set_option maxRecDepth 100000 in
theorem c_X5_thread (l : Launch) (ω : Wd)  (M : Mm) (a1 : Int32) (a2 : Int32) {r : Int32} {M' : Mm} (hm : m_X5_thread a1 a2 M = some (r, M')) : MI l yX5_thread wsX5_thread ⟨3, 0, 0, 82⟩ ω LC [.ref (th ω 0 0), .int a1, .int a2] M r M' := by
  refine met_i (cc := cX5_thread) (maxL := 3) (ty := .int) (by decide +kernel) rfl (Nat.le_of_ble_eq_true rfl) LC_nd ?_
  intro Γ h hR ht
  suffices K : Gq Γ ω LC eI 0 [(0, .ref (th ω 0 0)), (1, .int a1), (2, .int a2)] [] M (m_X5_thread a1 a2 M) from K (r, M') hm ht
  unfold m_X5_thread
  refine g_iload_n h 1 dX5_thread_0 rfl rfl ?_
  refine g_callP h (As := [.int a1]) (fun r t hG => c_X5_isPlayer l ω M00 a1 hG) 1 rfl gX5_thread_X5_isPlayer rfl rfl rfl (by decide +kernel) (by decide) (st0 := _) rfl (Nat.le_of_ble_eq_true rfl) dX5_thread_1 (fun r1 => ?_)
  refine g_if_ne h 9 dX5_thread_4 (by decide) (fun hc2 => ?_) (fun hc2 => ?_)
  · skip
    refine g_iconst h (-1) dX5_thread_7 (by decide) ?_
    exact g_iret hR rfl dX5_thread_8
  · skip
    refine g_iload_n h 2 dX5_thread_9 rfl rfl ?_
    refine g_iconst h 1 dX5_thread_10 (by decide) ?_
    refine g_bipush h 9 dX5_thread_11 (by decide) ?_
    refine g_callP h (As := [.int a2, .int 1, .int 9]) (fun r t hG => c_X5_isWithin l ω M00 a2 1 9 hG) 3 rfl gX5_thread_X5_isWithin rfl rfl rfl (by decide +kernel) (by decide) (st0 := _) rfl (Nat.le_of_ble_eq_true rfl) dX5_thread_13 (fun r3 => ?_)
    refine g_if_ne h 22 dX5_thread_16 (by decide) (fun hc4 => ?_) (fun hc4 => ?_)
    · skip
      refine g_bipush h (-2) dX5_thread_19 (by decide) ?_
      exact g_iret hR rfl dX5_thread_21
    · skip
      refine g_aload_n h 0 dX5_thread_22 rfl rfl ?_
      refine g_getR h (index := 10) (j := 0) iC_0_0 (C := RX5) (T := TX5) (N := 8) rfl n_X5_thread_5 (by decide) rfl (by decide +kernel) dX5_thread_23 ?_
      refine g_getR h (index := 62) (j := 0) (inS kS1 0 (by decide)) (C := RX4) (T := TX4) (N := 13) rfl n_X5_thread_4 (by decide) rfl (by decide +kernel) dX5_thread_26 ?_
      refine g_iload_n h 1 dX5_thread_29 rfl rfl ?_
      refine g_iald h (v := M 1 1 a1.toNatClampNeg) rfl (inS kS1 1 (by decide)) dX5_thread_30 ?_
      refine g_ni (fun v5 => ?_)
      refine g_iconst h 1 dX5_thread_31 (by decide) ?_
      refine g_icmp_ge h 38 dX5_thread_32 (by decide) (fun hc6 => ?_) (fun hc6 => ?_)
      · skip
        refine g_aload_n h 0 dX5_thread_38 rfl rfl ?_
        refine g_getR h (index := 10) (j := 0) iC_0_0 (C := RX5) (T := TX5) (N := 8) rfl n_X5_thread_5 (by decide) rfl (by decide +kernel) dX5_thread_39 ?_
        refine g_getI h (v := M 1 0 10) rfl (index := 66) (j := 10) (inS kS1 0 (by decide)) (C := RX4) (T := TX4) (N := 13) rfl n_X5_thread_4 (by decide) rfl (by decide +kernel) dX5_thread_42 ?_
        refine g_ni (fun v7 => ?_)
        refine g_bipush h 30 dX5_thread_45 (by decide) ?_
        refine g_icmp_lt h 53 dX5_thread_47 (by decide) (fun hc8 => ?_) (fun hc8 => ?_)
        · skip
          refine g_aload_n h 0 dX5_thread_53 rfl rfl ?_
          refine g_getR h (index := 25) (j := 3) iC_0_0 (C := RX5) (T := TX5) (N := 8) rfl n_X5_thread_5 (by decide) rfl (by decide +kernel) dX5_thread_54 ?_
          refine g_aload_n h 0 dX5_thread_57 rfl rfl ?_
          refine g_getR h (index := 10) (j := 0) iC_0_0 (C := RX5) (T := TX5) (N := 8) rfl n_X5_thread_5 (by decide) rfl (by decide +kernel) dX5_thread_58 ?_
          refine g_callV h (As := [.ref (th ω 1 0)]) (fun t => t) (fun r t hG => c_X1_keep l ω _ hG) iC_12_0 (C := RX1) (T := TX1) (N := 2) rfl 1 rfl gX5_thread_X1_keep rfl rfl rfl (by decide +kernel) (by decide) (st0 := _) rfl (Nat.le_of_ble_eq_true rfl) dX5_thread_61 (fun r9 M10 => ?_)
          refine g_aload_n h 0 dX5_thread_64 rfl rfl ?_
          refine g_getR h (index := 10) (j := 0) iC_0_0 (C := RX5) (T := TX5) (N := 8) rfl n_X5_thread_5 (by decide) rfl (by decide +kernel) dX5_thread_65 ?_
          refine g_iload_n h 1 dX5_thread_68 rfl rfl ?_
          refine g_iload_n h 2 dX5_thread_69 rfl rfl ?_
          refine g_callI h (As := [.int a1, .int a2]) (fun t => uM M10 1 t) (fun r t hG => MI_self (c_X4_addConker l ω 1 kS1 M10 _ a1 a2 hG)) (inS kS1 0 (by decide)) (C := RX4) (T := TX4) (N := 13) rfl 2 rfl gX5_thread_X4_addConker rfl rfl rfl (by decide +kernel) (by decide) (st0 := _) rfl (Nat.le_of_ble_eq_true rfl) dX5_thread_70 (fun r11 M12 => ?_)
          refine g_nm (fun M13 => ?_)
          exact g_iret hR rfl dX5_thread_73
        · skip
          refine g_bipush h (-3) dX5_thread_50 (by decide) ?_
          exact g_iret hR rfl dX5_thread_52
      · skip
        refine g_bipush h (-4) dX5_thread_35 (by decide) ?_
        exact g_iret hR rfl dX5_thread_37
theorem n_X5_undo_5 : ∀ w ∈ wsX50, w ∈ wsX5_undo := by decide +kernel
set_option maxHeartbeats 4000000 in
set_option maxRecDepth 100000 in
theorem c_X5_undo (l : Launch) (ω : Wd)  (M : Mm) {r : Int32} {M' : Mm} (hm : m_X5_undo M = some (r, M')) : MI l yX5_undo wsX5_undo ⟨3, 0, 0, 82⟩ ω LC [.ref (th ω 0 0)] M r M' := by
  refine met_i (cc := cX5_undo) (maxL := 1) (ty := .int) (by decide +kernel) rfl (Nat.le_of_ble_eq_true rfl) LC_nd ?_
  intro Γ h hR ht
  suffices K : Gq Γ ω LC eI 0 [(0, .ref (th ω 0 0))] [] M (m_X5_undo M) from K (r, M') hm ht
  unfold m_X5_undo
  refine g_aload_n h 0 dX5_undo_0 rfl rfl ?_
  refine g_getR h (index := 25) (j := 3) iC_0_0 (C := RX5) (T := TX5) (N := 8) rfl n_X5_undo_5 (by decide) rfl (by decide +kernel) dX5_undo_1 ?_
  refine g_aload_n h 0 dX5_undo_4 rfl rfl ?_
  refine g_getR h (index := 10) (j := 0) iC_0_0 (C := RX5) (T := TX5) (N := 8) rfl n_X5_undo_5 (by decide) rfl (by decide +kernel) dX5_undo_5 ?_
  refine g_callI h (As := [.ref (th ω 1 0)]) (fun t => t) (fun r t hG => c_X1_bringBack l ω _ hG) iC_12_0 (C := RX1) (T := TX1) (N := 2) rfl 1 rfl gX5_undo_X1_bringBack rfl rfl rfl (by decide +kernel) (by decide) (st0 := _) rfl (Nat.le_of_ble_eq_true rfl) dX5_undo_8 (fun r1 M2 => ?_)
  exact g_iret hR rfl dX5_undo_11
theorem n_X5_winner_4 : ∀ w ∈ wsX40, w ∈ wsX5_winner := by decide +kernel
theorem n_X5_winner_5 : ∀ w ∈ wsX50, w ∈ wsX5_winner := by decide +kernel
set_option maxHeartbeats 4000000 in
set_option maxRecDepth 100000 in
theorem b_X5_winner_91 {Γ : Cx} {l : Launch} {ω : Wd}  (h : CxOk Γ l ⟨5, 0, 0, 120⟩ 7 ω LC cX5_winner yX5_winner.cls wsX5_winner) (hR : RetI Γ ω LC cX5_winner .int) : ∀ (b1 : Int32) (b2 : Int32) (b5 : Int32) (s0 : Int32) (M : Mm), Gq Γ ω LC eI 91 [(1, .int b1), (2, .int b2), (5, .int b5)] [.int s0] M (m_X5_winner_91 b1 b2 b5 s0 M) := by
  intro b1 b2 b5 s0 M
  unfold m_X5_winner_91
  refine g_istore h (lv' := [(6, .int s0), (1, .int b1), (2, .int b2), (5, .int b5)]) dX5_winner_91 (by decide) [0, 1, 2, 3] rfl ?_
  refine g_iload h 3 dX5_winner_93 rfl ?_
  refine g_iload h 0 dX5_winner_95 rfl ?_
  refine g_icmp_ne h 103 dX5_winner_97 (by decide) (fun hc1 => ?_) (fun hc1 => ?_)
  · skip
    refine g_bipush h (-5) dX5_winner_100 (by decide) ?_
    exact g_iret hR rfl dX5_winner_102
  · skip
    refine g_iload h 3 dX5_winner_103 rfl ?_
    refine g_if_eq h 112 dX5_winner_105 (by decide) (fun hc2 => ?_) (fun hc2 => ?_)
    · skip
      refine g_iload_n h 1 dX5_winner_112 rfl rfl ?_
      exact g_iret hR rfl dX5_winner_113
    · skip
      refine g_iload_n h 2 dX5_winner_108 rfl rfl ?_
      refine g_goto h (tgt := 113) dX5_winner_109 (by decide) ?_
      exact g_iret hR rfl dX5_winner_113
set_option maxHeartbeats 4000000 in
set_option maxRecDepth 100000 in
theorem b_X5_winner_71 {Γ : Cx} {l : Launch} {ω : Wd}  (h : CxOk Γ l ⟨5, 0, 0, 120⟩ 7 ω LC cX5_winner yX5_winner.cls wsX5_winner) (hR : RetI Γ ω LC cX5_winner .int) : ∀ (b1 : Int32) (b2 : Int32) (s0 : Int32) (M : Mm), Gq Γ ω LC eI 71 [(0, .ref (th ω 0 0)), (1, .int b1), (2, .int b2)] [.int s0] M (m_X5_winner_71 b1 b2 s0 M) := by
  intro b1 b2 s0 M
  unfold m_X5_winner_71
  refine g_istore h (lv' := [(5, .int s0), (0, .ref (th ω 0 0)), (1, .int b1), (2, .int b2)]) dX5_winner_71 (by decide) [0, 1, 2, 3] rfl ?_
  refine g_aload_n h 1 dX5_winner_73 rfl rfl ?_
  refine g_getR h (index := 19) (j := 2) iC_0_0 (C := RX5) (T := TX5) (N := 8) rfl n_X5_winner_5 (by decide) rfl (by decide +kernel) dX5_winner_74 ?_
  refine g_getR h (index := 101) (j := 8) (inS kS3 0 (by decide)) (C := RX4) (T := TX4) (N := 13) rfl n_X5_winner_4 (by decide) rfl (by decide +kernel) dX5_winner_77 ?_
  refine g_iload_n h 3 dX5_winner_80 rfl rfl ?_
  refine g_iald h (v := M 3 9 b2.toNatClampNeg) rfl (inS kS3 9 (by decide)) dX5_winner_81 ?_
  refine g_ni (fun v1 => ?_)
  refine g_iconst h 2 dX5_winner_82 (by decide) ?_
  refine g_icmp_ne h 90 dX5_winner_83 (by decide) (fun hc2 => ?_) (fun hc2 => ?_)
  · skip
    refine g_iconst h 1 dX5_winner_86 (by decide) ?_
    refine g_goto h (tgt := 91) dX5_winner_87 (by decide) ?_
    refine g_sub (lv' := [(1, .int b1), (2, .int b2), (5, .int s0)]) [2, 3, 0] rfl ?_
    exact b_X5_winner_91 h hR _ _ _ _ _
  · skip
    refine g_iconst h 0 dX5_winner_90 (by decide) ?_
    refine g_sub (lv' := [(1, .int b1), (2, .int b2), (5, .int s0)]) [2, 3, 0] rfl ?_
    exact b_X5_winner_91 h hR _ _ _ _ _
set_option maxHeartbeats 4000000 in
set_option maxRecDepth 100000 in
theorem c_X5_winner (l : Launch) (ω : Wd)  (M : Mm) (a1 : Int32) (a2 : Int32) (a3 : Int32) {r : Int32} {M' : Mm} (hm : m_X5_winner a1 a2 a3 M = some (r, M')) : MI l yX5_winner wsX5_winner ⟨5, 0, 0, 120⟩ ω LC [.ref (th ω 0 0), .int a1, .int a2, .int a3] M r M' := by
  refine met_i (cc := cX5_winner) (maxL := 7) (ty := .int) (by decide +kernel) rfl (Nat.le_of_ble_eq_true rfl) LC_nd ?_
  intro Γ h hR ht
  suffices K : Gq Γ ω LC eI 0 [(0, .ref (th ω 0 0)), (1, .int a1), (2, .int a2), (3, .int a3)] [] M (m_X5_winner a1 a2 a3 M) from K (r, M') hm ht
  unfold m_X5_winner
  refine g_aload_n h 0 dX5_winner_0 rfl rfl ?_
  refine g_getR h (index := 10) (j := 0) iC_0_0 (C := RX5) (T := TX5) (N := 8) rfl n_X5_winner_5 (by decide) rfl (by decide +kernel) dX5_winner_1 ?_
  refine g_iload_n h 1 dX5_winner_4 rfl rfl ?_
  refine g_iload_n h 2 dX5_winner_5 rfl rfl ?_
  refine g_iload_n h 3 dX5_winner_6 rfl rfl ?_
  refine g_callI h (As := [.int a1, .int a2, .int a3]) (fun t => uM M 1 t) (fun r t hG => MI_self (c_X4_boutError l ω 1 kS1 M _ a1 a2 a3 hG)) (inS kS1 0 (by decide)) (C := RX4) (T := TX4) (N := 13) rfl 3 rfl gX5_winner_X4_boutError rfl rfl rfl (by decide +kernel) (by decide) (st0 := _) rfl (Nat.le_of_ble_eq_true rfl) dX5_winner_7 (fun r1 M2 => ?_)
  refine g_nm (fun M3 => ?_)
  refine g_istore h (lv' := [(4, .int r1), (0, .ref (th ω 0 0)), (1, .int a1), (2, .int a2), (3, .int a3)]) dX5_winner_10 (by decide) [0, 1, 2, 3, 4] rfl ?_
  refine g_iload h 0 dX5_winner_12 rfl ?_
  refine g_if_eq h 20 dX5_winner_14 (by decide) (fun hc4 => ?_) (fun hc4 => ?_)
  · skip
    refine g_aload_n h 1 dX5_winner_20 rfl rfl ?_
    refine g_getR h (index := 19) (j := 2) iC_0_0 (C := RX5) (T := TX5) (N := 8) rfl n_X5_winner_5 (by decide) rfl (by decide +kernel) dX5_winner_21 ?_
    refine g_aload_n h 1 dX5_winner_24 rfl rfl ?_
    refine g_getR h (index := 10) (j := 0) iC_0_0 (C := RX5) (T := TX5) (N := 8) rfl n_X5_winner_5 (by decide) rfl (by decide +kernel) dX5_winner_25 ?_
    refine g_callV h (As := [.ref (th ω 1 0)]) (fun t => t) (fun r t hG => c_X4_copyFrom l ω 3 1 kS3 kS1 _ hG) (inS kS3 0 (by decide)) (C := RX4) (T := TX4) (N := 13) rfl 1 rfl gX5_winner_X4_copyFrom rfl rfl rfl (by decide +kernel) (by decide) (st0 := _) rfl (Nat.le_of_ble_eq_true rfl) dX5_winner_28 (fun r5 M6 => ?_)
    refine g_aload_n h 1 dX5_winner_31 rfl rfl ?_
    refine g_getR h (index := 39) (j := 5) iC_0_0 (C := RX5) (T := TX5) (N := 8) rfl n_X5_winner_5 (by decide) rfl (by decide +kernel) dX5_winner_32 ?_
    refine g_iload_n h 4 dX5_winner_35 rfl rfl ?_
    refine g_callV h (As := [.int a3]) (fun t => uM M6 10 t) (fun r t hG => MV_self (c_X0_begin l ω M6 _ a3 hG)) iC_10_0 (C := RX0) (T := TX0) (N := 1) rfl 1 rfl gX5_winner_X0_begin rfl rfl rfl (by decide +kernel) (by decide) (st0 := _) rfl (Nat.le_of_ble_eq_true rfl) dX5_winner_36 (fun r7 M8 => ?_)
    refine g_nm (fun M9 => ?_)
    refine g_aload_n h 1 dX5_winner_39 rfl rfl ?_
    refine g_getR h (index := 19) (j := 2) iC_0_0 (C := RX5) (T := TX5) (N := 8) rfl n_X5_winner_5 (by decide) rfl (by decide +kernel) dX5_winner_40 ?_
    refine g_iload_n h 2 dX5_winner_43 rfl rfl ?_
    refine g_iload_n h 3 dX5_winner_44 rfl rfl ?_
    refine g_aload_n h 1 dX5_winner_45 rfl rfl ?_
    refine g_getR h (index := 39) (j := 5) iC_0_0 (C := RX5) (T := TX5) (N := 8) rfl n_X5_winner_5 (by decide) rfl (by decide +kernel) dX5_winner_46 ?_
    refine g_callI h (As := [.int a1, .int a2, .ref (th ω 10 0)]) (fun t => t) (fun r t hG => c_X4_fight l ω 3 kS3 _ a1 a2 hG) (inS kS3 0 (by decide)) (C := RX4) (T := TX4) (N := 13) rfl 3 rfl gX5_winner_X4_fight rfl rfl rfl (by decide +kernel) (by decide) (st0 := _) rfl (Nat.le_of_ble_eq_true rfl) dX5_winner_49 (fun r10 M11 => ?_)
    refine g_pop h dX5_winner_52 rfl ?_
    refine g_aload_n h 1 dX5_winner_53 rfl rfl ?_
    refine g_getR h (index := 19) (j := 2) iC_0_0 (C := RX5) (T := TX5) (N := 8) rfl n_X5_winner_5 (by decide) rfl (by decide +kernel) dX5_winner_54 ?_
    refine g_getR h (index := 101) (j := 8) (inS kS3 0 (by decide)) (C := RX4) (T := TX4) (N := 13) rfl n_X5_winner_4 (by decide) rfl (by decide +kernel) dX5_winner_57 ?_
    refine g_iload_n h 2 dX5_winner_60 rfl rfl ?_
    refine g_iald h (v := M11 3 9 a1.toNatClampNeg) rfl (inS kS3 9 (by decide)) dX5_winner_61 ?_
    refine g_ni (fun v12 => ?_)
    refine g_iconst h 2 dX5_winner_62 (by decide) ?_
    refine g_icmp_ne h 70 dX5_winner_63 (by decide) (fun hc13 => ?_) (fun hc13 => ?_)
    · skip
      refine g_iconst h 1 dX5_winner_66 (by decide) ?_
      refine g_goto h (tgt := 71) dX5_winner_67 (by decide) ?_
      refine g_sub (lv' := [(0, .ref (th ω 0 0)), (1, .int a1), (2, .int a2)]) [1, 2, 3] rfl ?_
      exact b_X5_winner_71 h hR _ _ _ _
    · skip
      refine g_iconst h 0 dX5_winner_70 (by decide) ?_
      refine g_sub (lv' := [(0, .ref (th ω 0 0)), (1, .int a1), (2, .int a2)]) [1, 2, 3] rfl ?_
      exact b_X5_winner_71 h hR _ _ _ _
  · skip
    refine g_iload h 0 dX5_winner_17 rfl ?_
    exact g_iret hR rfl dX5_winner_19
set_option maxHeartbeats 4000000 in
set_option maxRecDepth 100000 in
theorem c_X6_at (l : Launch) (ω : Wd)  (M : Mm) (a0 : Int32) (a1 : Int32) {r : Int32} {M' : Mm} (hm : m_X6_at a0 a1 M = some (r, M')) : MI l yX6_at wsX6_at ⟨0, 0, 0, 0⟩ ω L00 [.int a0, .int a1] M r M' := by
  refine met_i (cc := cX6_at) (maxL := 2) (ty := .int) (by decide +kernel) rfl (Nat.le_of_ble_eq_true rfl) L00_nd ?_
  intro Γ h hR ht
  suffices K : Gq Γ ω L00 eI 0 [(0, .int a0), (1, .int a1)] [] M (m_X6_at a0 a1 M) from K (r, M') hm ht
  unfold m_X6_at
  refine g_iload_n h 0 dX6_at_0 rfl rfl ?_
  refine g_bipush h 16 dX6_at_1 (by decide) ?_
  refine g_iadd h dX6_at_3 ?_
  refine g_bipush h 8 dX6_at_4 (by decide) ?_
  refine g_iload_n h 1 dX6_at_6 rfl rfl ?_
  refine g_imul h dX6_at_7 ?_
  refine g_iadd h dX6_at_8 ?_
  exact g_iret hR rfl dX6_at_9
set_option maxHeartbeats 4000000 in
set_option maxRecDepth 100000 in
theorem c_X6_flag (l : Launch) (ω : Wd)  (M : Mm) (a0 : Int32) {r : Int32} {M' : Mm} (hm : m_X6_flag a0 M = some (r, M')) : MI l yX6_flag wsX6_flag ⟨0, 0, 0, 0⟩ ω L00 [.int a0] M r M' := by
  refine met_i (cc := cX6_flag) (maxL := 1) (ty := .int) (by decide +kernel) rfl (Nat.le_of_ble_eq_true rfl) L00_nd ?_
  intro Γ h hR ht
  suffices K : Gq Γ ω L00 eI 0 [(0, .int a0)] [] M (m_X6_flag a0 M) from K (r, M') hm ht
  unfold m_X6_flag
  refine g_iload_n h 0 dX6_flag_0 rfl rfl ?_
  refine g_if_eq h 8 dX6_flag_1 (by decide) (fun hc1 => ?_) (fun hc1 => ?_)
  · skip
    refine g_iconst h 0 dX6_flag_8 (by decide) ?_
    exact g_iret hR rfl dX6_flag_9
  · skip
    refine g_iconst h 1 dX6_flag_4 (by decide) ?_
    refine g_goto h (tgt := 9) dX6_flag_5 (by decide) ?_
    exact g_iret hR rfl dX6_flag_9
theorem n_X6_ahead_6 : ∀ w ∈ wsX60, w ∈ wsX6_ahead := by decide +kernel
set_option maxHeartbeats 4000000 in
set_option maxRecDepth 100000 in
theorem b_X6_ahead_86 {Γ : Cx} {l : Launch} {ω : Wd} {M0 : Mm}  (h : CxOk Γ l ⟨1, 0, 0, 21⟩ 6 ω LM cX6_ahead yX6_ahead.cls wsX6_ahead) (hR : RetI Γ ω LM cX6_ahead .int) (κ18 : Int32 → Int32 → Int32 → Int32 → Tm → Option (Int32 × Tm)) (hκ18 : ∀ (b1 : Int32) (b2 : Int32) (b3 : Int32) (b4 : Int32) (T : Tm), Gq Γ ω LM (uM M0 0) 18 [(0, .ref (th ω 0 0)), (1, .int b1), (2, .int b2), (3, .int b3), (4, .int b4)] [] T (κ18 b1 b2 b3 b4 T)) : ∀ (b1 : Int32) (b3 : Int32) (b4 : Int32) (s0 : Int32) (s1 : Int32) (T : Tm), Gq Γ ω LM (uM M0 0) 86 [(0, .ref (th ω 0 0)), (1, .int b1), (3, .int b3), (4, .int b4)] [.int s1, .int s0] T (m_X6_ahead_86 κ18 b1 b3 b4 s0 s1 T) := by
  intro b1 b3 b4 s0 s1 T
  unfold m_X6_ahead_86
  refine g_callP h (As := [.int s1]) (fun r t hG => c_X6_flag l ω M00 s1 hG) 1 rfl gX6_ahead_X6_flag rfl rfl rfl (by decide +kernel) (by decide) (st0 := _) rfl (Nat.le_of_ble_eq_true rfl) dX6_ahead_86 (fun r1 => ?_)
  refine g_iadd h dX6_ahead_89 ?_
  refine g_istore_n h rfl (lv' := [(2, .int (s0 + r1)), (0, .ref (th ω 0 0)), (1, .int b1), (3, .int b3), (4, .int b4)]) dX6_ahead_90 (by decide) [0, 1, 2, 3, 4] rfl ?_
  refine g_iinc h (b4 + 1) (lv' := [(4, .int (b4 + 1)), (2, .int (s0 + r1)), (0, .ref (th ω 0 0)), (1, .int b1), (3, .int b3)]) dX6_ahead_91 4 rfl (congrArg (fun z => b4 + z) (by decide)) (by decide) [0, 1, 2, 3, 4] rfl ?_
  refine g_goto h (tgt := 18) dX6_ahead_94 (by decide) ?_
  refine g_sub (lv' := [(0, .ref (th ω 0 0)), (1, .int b1), (2, .int (s0 + r1)), (3, .int b3), (4, .int (b4 + 1))]) [2, 3, 1, 4, 0] rfl ?_
  exact hκ18 _ _ _ _ _
set_option maxHeartbeats 4000000 in
set_option maxRecDepth 100000 in
theorem b_X6_ahead_85 {Γ : Cx} {l : Launch} {ω : Wd} {M0 : Mm}  (h : CxOk Γ l ⟨1, 0, 0, 21⟩ 6 ω LM cX6_ahead yX6_ahead.cls wsX6_ahead) (hR : RetI Γ ω LM cX6_ahead .int) (κ18 : Int32 → Int32 → Int32 → Int32 → Tm → Option (Int32 × Tm)) (hκ18 : ∀ (b1 : Int32) (b2 : Int32) (b3 : Int32) (b4 : Int32) (T : Tm), Gq Γ ω LM (uM M0 0) 18 [(0, .ref (th ω 0 0)), (1, .int b1), (2, .int b2), (3, .int b3), (4, .int b4)] [] T (κ18 b1 b2 b3 b4 T)) : ∀ (b1 : Int32) (b3 : Int32) (b4 : Int32) (s0 : Int32) (T : Tm), Gq Γ ω LM (uM M0 0) 85 [(0, .ref (th ω 0 0)), (1, .int b1), (3, .int b3), (4, .int b4)] [.int s0] T (m_X6_ahead_85 κ18 b1 b3 b4 s0 T) := by
  intro b1 b3 b4 s0 T
  unfold m_X6_ahead_85
  refine g_iconst h 0 dX6_ahead_85 (by decide) ?_
  exact b_X6_ahead_86 h hR _ hκ18 _ _ _ _ _ _
set_option maxHeartbeats 4000000 in
set_option maxRecDepth 100000 in
theorem b_X6_ahead_81 {Γ : Cx} {l : Launch} {ω : Wd} {M0 : Mm}  (h : CxOk Γ l ⟨1, 0, 0, 21⟩ 6 ω LM cX6_ahead yX6_ahead.cls wsX6_ahead) (hR : RetI Γ ω LM cX6_ahead .int) (κ18 : Int32 → Int32 → Int32 → Int32 → Tm → Option (Int32 × Tm)) (hκ18 : ∀ (b1 : Int32) (b2 : Int32) (b3 : Int32) (b4 : Int32) (T : Tm), Gq Γ ω LM (uM M0 0) 18 [(0, .ref (th ω 0 0)), (1, .int b1), (2, .int b2), (3, .int b3), (4, .int b4)] [] T (κ18 b1 b2 b3 b4 T)) : ∀ (b1 : Int32) (b3 : Int32) (b4 : Int32) (s0 : Int32) (T : Tm), Gq Γ ω LM (uM M0 0) 81 [(0, .ref (th ω 0 0)), (1, .int b1), (3, .int b3), (4, .int b4)] [.int s0] T (m_X6_ahead_81 κ18 b1 b3 b4 s0 T) := by
  intro b1 b3 b4 s0 T
  unfold m_X6_ahead_81
  refine g_iconst h 1 dX6_ahead_81 (by decide) ?_
  refine g_goto h (tgt := 86) dX6_ahead_82 (by decide) ?_
  exact b_X6_ahead_86 h hR _ hκ18 _ _ _ _ _ _
set_option maxHeartbeats 4000000 in
set_option maxRecDepth 100000 in
theorem b_X6_ahead_18 {Γ : Cx} {l : Launch} {ω : Wd} {M0 : Mm}  (h : CxOk Γ l ⟨1, 0, 0, 21⟩ 6 ω LM cX6_ahead yX6_ahead.cls wsX6_ahead) (hR : RetI Γ ω LM cX6_ahead .int) : ∀ (n : Nat) (b1 : Int32) (b2 : Int32) (b3 : Int32) (b4 : Int32) (T : Tm), Gq Γ ω LM (uM M0 0) 18 [(0, .ref (th ω 0 0)), (1, .int b1), (2, .int b2), (3, .int b3), (4, .int b4)] [] T (m_X6_ahead_18 n b1 b2 b3 b4 T) := by
  intro n
  induction n with
  | zero =>
    intro b1 b2 b3 b4 T
    rw [m_X6_ahead_18.eq_1]
    exact g_none
  | succ n ih =>
    intro b1 b2 b3 b4 T
    rw [m_X6_ahead_18.eq_2]
    refine g_iload h 4 dX6_ahead_18 rfl ?_
    refine g_aload_n h 0 dX6_ahead_20 rfl rfl ?_
    refine g_getR h (index := 7) (j := 0) iM_0_0 (C := RX6) (T := TX6) (N := 13) rfl n_X6_ahead_6 (by decide) rfl (by decide +kernel) dX6_ahead_21 ?_
    refine g_iconst h 0 dX6_ahead_24 (by decide) ?_
    refine g_iald h (v := T 1 ((0 : Int32).toNatClampNeg)) (uMr M0 0 _ _ _) iM_0_1 dX6_ahead_25 ?_
    refine g_ni (fun v1 => ?_)
    refine g_icmp_ge h 97 dX6_ahead_26 (by decide) (fun hc2 => ?_) (fun hc2 => ?_)
    · skip
      refine g_iload_n h 2 dX6_ahead_97 rfl rfl ?_
      exact g_iret hR rfl dX6_ahead_98
    · skip
      refine g_aload_n h 0 dX6_ahead_29 rfl rfl ?_
      refine g_getR h (index := 7) (j := 0) iM_0_0 (C := RX6) (T := TX6) (N := 13) rfl n_X6_ahead_6 (by decide) rfl (by decide +kernel) dX6_ahead_30 ?_
      refine g_iconst h 0 dX6_ahead_33 (by decide) ?_
      refine g_iload h 4 dX6_ahead_34 rfl ?_
      refine g_callP h (As := [.int 0, .int b4]) (fun r t hG => c_X6_at l ω M00 0 b4 hG) 2 rfl gX6_ahead_X6_at rfl rfl rfl (by decide +kernel) (by decide) (st0 := _) rfl (Nat.le_of_ble_eq_true rfl) dX6_ahead_36 (fun r3 => ?_)
      refine g_iconst h 4 dX6_ahead_39 (by decide) ?_
      refine g_iadd h dX6_ahead_40 ?_
      refine g_iald h (v := T 1 ((r3 + 4).toNatClampNeg)) (uMr M0 0 _ _ _) iM_0_1 dX6_ahead_41 ?_
      refine g_ni (fun v4 => ?_)
      refine g_istore h (lv' := [(5, .int v4), (0, .ref (th ω 0 0)), (1, .int b1), (2, .int b2), (3, .int b3), (4, .int b4)]) dX6_ahead_42 (by decide) [0, 1, 2, 3, 4, 5] rfl ?_
      refine g_iload_n h 3 dX6_ahead_44 rfl rfl ?_
      refine g_aload_n h 1 dX6_ahead_45 rfl rfl ?_
      refine g_getR h (index := 7) (j := 0) iM_0_0 (C := RX6) (T := TX6) (N := 13) rfl n_X6_ahead_6 (by decide) rfl (by decide +kernel) dX6_ahead_46 ?_
      refine g_iconst h 0 dX6_ahead_49 (by decide) ?_
      refine g_iload h 5 dX6_ahead_50 rfl ?_
      refine g_callP h (As := [.int 0, .int b4]) (fun r t hG => c_X6_at l ω M00 0 b4 hG) 2 rfl gX6_ahead_X6_at rfl rfl rfl (by decide +kernel) (by decide) (st0 := _) rfl (Nat.le_of_ble_eq_true rfl) dX6_ahead_52 (fun r5 => ?_)
      refine g_bipush h 6 dX6_ahead_55 (by decide) ?_
      refine g_iadd h dX6_ahead_57 ?_
      refine g_iald h (v := T 1 ((r5 + 6).toNatClampNeg)) (uMr M0 0 _ _ _) iM_0_1 dX6_ahead_58 ?_
      refine g_ni (fun v6 => ?_)
      refine g_iconst h 2 dX6_ahead_59 (by decide) ?_
      refine g_icmp_eq h 85 dX6_ahead_60 (by decide) (fun hc7 => ?_) (fun hc7 => ?_)
      · skip
        refine g_sub (lv' := [(0, .ref (th ω 0 0)), (1, .int b1), (3, .int b3), (4, .int b4)]) [1, 2, 4, 5] rfl ?_
        exact b_X6_ahead_85 h hR _ ih _ _ _ _ _
      · skip
        refine g_iload h 0 dX6_ahead_63 rfl ?_
        refine g_iload_n h 4 dX6_ahead_65 rfl rfl ?_
        refine g_icmp_gt h 81 dX6_ahead_66 (by decide) (fun hc8 => ?_) (fun hc8 => ?_)
        · skip
          refine g_sub (lv' := [(0, .ref (th ω 0 0)), (1, .int b1), (3, .int b3), (4, .int b4)]) [1, 2, 4, 5] rfl ?_
          exact b_X6_ahead_81 h hR _ ih _ _ _ _ _
        · skip
          refine g_iload h 0 dX6_ahead_69 rfl ?_
          refine g_iload_n h 4 dX6_ahead_71 rfl rfl ?_
          refine g_icmp_ne h 85 dX6_ahead_72 (by decide) (fun hc9 => ?_) (fun hc9 => ?_)
          · skip
            refine g_iload h 5 dX6_ahead_75 rfl ?_
            refine g_iload_n h 2 dX6_ahead_77 rfl rfl ?_
            refine g_icmp_ge h 85 dX6_ahead_78 (by decide) (fun hc10 => ?_) (fun hc10 => ?_)
            · skip
              refine g_sub (lv' := [(0, .ref (th ω 0 0)), (1, .int b1), (3, .int b3), (4, .int b4)]) [1, 2, 4, 5] rfl ?_
              exact b_X6_ahead_85 h hR _ ih _ _ _ _ _
            · skip
              refine g_sub (lv' := [(0, .ref (th ω 0 0)), (1, .int b1), (3, .int b3), (4, .int b4)]) [1, 2, 4, 5] rfl ?_
              exact b_X6_ahead_81 h hR _ ih _ _ _ _ _
          · skip
            refine g_sub (lv' := [(0, .ref (th ω 0 0)), (1, .int b1), (3, .int b3), (4, .int b4)]) [1, 2, 4, 5] rfl ?_
            exact b_X6_ahead_85 h hR _ ih _ _ _ _ _
set_option maxHeartbeats 4000000 in
set_option maxRecDepth 100000 in
theorem c_X6_ahead (l : Launch) (ω : Wd)  (M0 : Mm) (T : Tm) (a1 : Int32) {r : Int32} {T' : Tm} (hm : m_X6_ahead a1 T = some (r, T')) : MI l yX6_ahead wsX6_ahead ⟨1, 0, 0, 21⟩ ω LM [.ref (th ω 0 0), .int a1] (uM M0 0 T) r (uM M0 0 T') := by
  refine met_i (cc := cX6_ahead) (maxL := 6) (ty := .int) (by decide +kernel) rfl (Nat.le_of_ble_eq_true rfl) LM_nd ?_
  intro Γ h hR ht
  suffices K : Gq Γ ω LM (uM M0 0) 0 [(0, .ref (th ω 0 0)), (1, .int a1)] [] T (m_X6_ahead a1 T) from K (r, T') hm ht
  unfold m_X6_ahead
  refine g_iconst h 0 dX6_ahead_0 (by decide) ?_
  refine g_istore_n h rfl (lv' := [(2, .int 0), (0, .ref (th ω 0 0)), (1, .int a1)]) dX6_ahead_1 (by decide) [0, 1, 2] rfl ?_
  refine g_aload_n h 1 dX6_ahead_2 rfl rfl ?_
  refine g_getR h (index := 7) (j := 0) iM_0_0 (C := RX6) (T := TX6) (N := 13) rfl n_X6_ahead_6 (by decide) rfl (by decide +kernel) dX6_ahead_3 ?_
  refine g_iconst h 0 dX6_ahead_6 (by decide) ?_
  refine g_iload_n h 2 dX6_ahead_7 rfl rfl ?_
  refine g_callP h (As := [.int 0, .int a1]) (fun r t hG => c_X6_at l ω M00 0 a1 hG) 2 rfl gX6_ahead_X6_at rfl rfl rfl (by decide +kernel) (by decide) (st0 := _) rfl (Nat.le_of_ble_eq_true rfl) dX6_ahead_8 (fun r1 => ?_)
  refine g_iconst h 4 dX6_ahead_11 (by decide) ?_
  refine g_iadd h dX6_ahead_12 ?_
  refine g_iald h (v := T 1 ((r1 + 4).toNatClampNeg)) (uMr M0 0 _ _ _) iM_0_1 dX6_ahead_13 ?_
  refine g_ni (fun v2 => ?_)
  refine g_istore_n h rfl (lv' := [(3, .int v2), (2, .int 0), (0, .ref (th ω 0 0)), (1, .int a1)]) dX6_ahead_14 (by decide) [0, 1, 2, 3] rfl ?_
  refine g_iconst h 0 dX6_ahead_15 (by decide) ?_
  refine g_istore h (lv' := [(4, .int 0), (3, .int v2), (2, .int 0), (0, .ref (th ω 0 0)), (1, .int a1)]) dX6_ahead_16 (by decide) [0, 1, 2, 3, 4] rfl ?_
  refine g_sub (lv' := [(0, .ref (th ω 0 0)), (1, .int a1), (2, .int 0), (3, .int v2), (4, .int 0)]) [3, 4, 2, 1, 0] rfl ?_
  exact b_X6_ahead_18 h hR fu _ _ _ _ _
set_option maxHeartbeats 4000000 in
set_option maxRecDepth 100000 in
theorem c_X6_in (l : Launch) (ω : Wd)  (M : Mm) (a0 : Int32) (a1 : Int32) (a2 : Int32) {r : Int32} {M' : Mm} (hm : m_X6_in a0 a1 a2 M = some (r, M')) : MI l yX6_in wsX6_in ⟨0, 0, 0, 0⟩ ω L00 [.int a0, .int a1, .int a2] M r M' := by
  refine met_i (cc := cX6_in) (maxL := 3) (ty := .boolean) (by decide +kernel) rfl (Nat.le_of_ble_eq_true rfl) L00_nd ?_
  intro Γ h hR ht
  suffices K : Gq Γ ω L00 eI 0 [(0, .int a0), (1, .int a1), (2, .int a2)] [] M (m_X6_in a0 a1 a2 M) from K (r, M') hm ht
  unfold m_X6_in
  refine g_iload_n h 0 dX6_in_0 rfl rfl ?_
  refine g_iload_n h 1 dX6_in_1 rfl rfl ?_
  refine g_icmp_lt h 14 dX6_in_2 (by decide) (fun hc1 => ?_) (fun hc1 => ?_)
  · skip
    refine g_iconst h 0 dX6_in_14 (by decide) ?_
    exact g_iret hR (by decide) dX6_in_15
  · skip
    refine g_iload_n h 0 dX6_in_5 rfl rfl ?_
    refine g_iload_n h 2 dX6_in_6 rfl rfl ?_
    refine g_icmp_gt h 14 dX6_in_7 (by decide) (fun hc2 => ?_) (fun hc2 => ?_)
    · skip
      refine g_iconst h 0 dX6_in_14 (by decide) ?_
      exact g_iret hR (by decide) dX6_in_15
    · skip
      refine g_iconst h 1 dX6_in_10 (by decide) ?_
      refine g_goto h (tgt := 15) dX6_in_11 (by decide) ?_
      exact g_iret hR (by decide) dX6_in_15
theorem n_X6_append_6 : ∀ w ∈ wsX60, w ∈ wsX6_append := by decide +kernel
set_option maxHeartbeats 4000000 in
set_option maxRecDepth 100000 in
theorem c_X6_append (l : Launch) (ω : Wd)  (M0 : Mm) (T : Tm) (a1 : Int32) {r : Int32} {T' : Tm} (hm : m_X6_append a1 T = some (r, T')) : MI l yX6_append wsX6_append ⟨1, 0, 0, 22⟩ ω LM [.ref (th ω 0 0), .int a1] (uM M0 0 T) r (uM M0 0 T') := by
  refine met_i (cc := cX6_append) (maxL := 2) (ty := .int) (by decide +kernel) rfl (Nat.le_of_ble_eq_true rfl) LM_nd ?_
  intro Γ h hR ht
  suffices K : Gq Γ ω LM (uM M0 0) 0 [(0, .ref (th ω 0 0)), (1, .int a1)] [] T (m_X6_append a1 T) from K (r, T') hm ht
  unfold m_X6_append
  refine g_iload_n h 1 dX6_append_0 rfl rfl ?_
  refine g_bipush h 32 dX6_append_1 (by decide) ?_
  refine g_bipush h 126 dX6_append_3 (by decide) ?_
  refine g_callP h (As := [.int a1, .int 32, .int 126]) (fun r t hG => c_X6_in l ω M00 a1 32 126 hG) 3 rfl gX6_append_X6_in rfl rfl rfl (by decide +kernel) (by decide) (st0 := _) rfl (Nat.le_of_ble_eq_true rfl) dX6_append_5 (fun r1 => ?_)
  refine g_if_ne h 14 dX6_append_8 (by decide) (fun hc2 => ?_) (fun hc2 => ?_)
  · skip
    refine g_bipush h (-2) dX6_append_11 (by decide) ?_
    exact g_iret hR rfl dX6_append_13
  · skip
    refine g_aload_n h 0 dX6_append_14 rfl rfl ?_
    refine g_getI h (v := T 0 4) (uMr M0 0 _ _ _) (index := 107) (j := 4) iM_0_0 (C := RX6) (T := TX6) (N := 13) rfl n_X6_append_6 (by decide) rfl (by decide +kernel) dX6_append_15 ?_
    refine g_ni (fun v3 => ?_)
    refine g_bipush h 60 dX6_append_18 (by decide) ?_
    refine g_icmp_ne h 26 dX6_append_20 (by decide) (fun hc4 => ?_) (fun hc4 => ?_)
    · skip
      refine g_bipush h (-3) dX6_append_23 (by decide) ?_
      exact g_iret hR rfl dX6_append_25
    · skip
      refine g_aload_n h 0 dX6_append_26 rfl rfl ?_
      refine g_getR h (index := 13) (j := 3) iM_0_0 (C := RX6) (T := TX6) (N := 13) rfl n_X6_append_6 (by decide) rfl (by decide +kernel) dX6_append_27 ?_
      refine g_aload_n h 0 dX6_append_30 rfl rfl ?_
      refine g_getI h (v := T 0 4) (uMr M0 0 _ _ _) (index := 107) (j := 4) iM_0_0 (C := RX6) (T := TX6) (N := 13) rfl n_X6_append_6 (by decide) rfl (by decide +kernel) dX6_append_31 ?_
      refine g_ni (fun v5 => ?_)
      refine g_iload_n h 1 dX6_append_34 rfl rfl ?_
      refine g_iast h (x' := wT T 2 v5.toNatClampNeg a1) (wM_uM M0 0 _ _ _ _).symm iM_0_2 dX6_append_35 ?_
      refine g_nm (fun T6 => ?_)
      refine g_aload_n h 0 dX6_append_36 rfl rfl ?_
      refine g_dup h dX6_append_37 rfl ?_
      refine g_getI h (v := T6 0 4) (uMr M0 0 _ _ _) (index := 107) (j := 4) iM_0_0 (C := RX6) (T := TX6) (N := 13) rfl n_X6_append_6 (by decide) rfl (by decide +kernel) dX6_append_38 ?_
      refine g_ni (fun v7 => ?_)
      refine g_iconst h 1 dX6_append_41 (by decide) ?_
      refine g_iadd h dX6_append_42 ?_
      refine g_putI h (x' := wT T6 0 4 (v7 + 1)) (wM_uM M0 0 _ _ _ _).symm (index := 107) (j := 4) iM_0_0 (C := RX6) (T := TX6) (N := 13) rfl n_X6_append_6 tyX6_ok nmX6 (by decide) rfl (by decide +kernel) rfl (ty := .int) (by decide +kernel) rfl rfl dX6_append_43 ?_
      refine g_nm (fun T8 => ?_)
      refine g_aload_n h 0 dX6_append_46 rfl rfl ?_
      refine g_getI h (v := T8 0 4) (uMr M0 0 _ _ _) (index := 107) (j := 4) iM_0_0 (C := RX6) (T := TX6) (N := 13) rfl n_X6_append_6 (by decide) rfl (by decide +kernel) dX6_append_47 ?_
      refine g_ni (fun v9 => ?_)
      exact g_iret hR rfl dX6_append_50
theorem n_X6_best_6 : ∀ w ∈ wsX60, w ∈ wsX6_best := by decide +kernel
set_option maxHeartbeats 4000000 in
set_option maxRecDepth 100000 in
theorem b_X6_best_93 {Γ : Cx} {l : Launch} {ω : Wd} {M0 : Mm}  (h : CxOk Γ l ⟨1, 0, 0, 21⟩ 6 ω LM cX6_best yX6_best.cls wsX6_best) (hR : RetI Γ ω LM cX6_best .int) (κ5 : Int32 → Int32 → Int32 → Tm → Option (Int32 × Tm)) (hκ5 : ∀ (b1 : Int32) (b2 : Int32) (b3 : Int32) (T : Tm), Gq Γ ω LM (uM M0 0) 5 [(0, .ref (th ω 0 0)), (1, .int b1), (2, .int b2), (3, .int b3)] [] T (κ5 b1 b2 b3 T)) : ∀ (b1 : Int32) (b3 : Int32) (s0 : Int32) (T : Tm), Gq Γ ω LM (uM M0 0) 93 [(0, .ref (th ω 0 0)), (1, .int b1), (3, .int b3)] [.int s0] T (m_X6_best_93 κ5 b1 b3 s0 T) := by
  intro b1 b3 s0 T
  unfold m_X6_best_93
  refine g_istore_n h rfl (lv' := [(2, .int s0), (0, .ref (th ω 0 0)), (1, .int b1), (3, .int b3)]) dX6_best_93 (by decide) [0, 1, 2, 3] rfl ?_
  refine g_iinc h (b3 + 1) (lv' := [(3, .int (b3 + 1)), (2, .int s0), (0, .ref (th ω 0 0)), (1, .int b1)]) dX6_best_94 3 rfl (congrArg (fun z => b3 + z) (by decide)) (by decide) [0, 1, 2, 3] rfl ?_
  refine g_goto h (tgt := 5) dX6_best_97 (by decide) ?_
  refine g_sub (lv' := [(0, .ref (th ω 0 0)), (1, .int b1), (2, .int s0), (3, .int (b3 + 1))]) [2, 3, 1, 0] rfl ?_
  exact hκ5 _ _ _ _
set_option maxHeartbeats 4000000 in
set_option maxRecDepth 100000 in
theorem b_X6_best_92 {Γ : Cx} {l : Launch} {ω : Wd} {M0 : Mm}  (h : CxOk Γ l ⟨1, 0, 0, 21⟩ 6 ω LM cX6_best yX6_best.cls wsX6_best) (hR : RetI Γ ω LM cX6_best .int) (κ5 : Int32 → Int32 → Int32 → Tm → Option (Int32 × Tm)) (hκ5 : ∀ (b1 : Int32) (b2 : Int32) (b3 : Int32) (T : Tm), Gq Γ ω LM (uM M0 0) 5 [(0, .ref (th ω 0 0)), (1, .int b1), (2, .int b2), (3, .int b3)] [] T (κ5 b1 b2 b3 T)) : ∀ (b1 : Int32) (b2 : Int32) (b3 : Int32) (T : Tm), Gq Γ ω LM (uM M0 0) 92 [(0, .ref (th ω 0 0)), (1, .int b1), (2, .int b2), (3, .int b3)] [] T (m_X6_best_92 κ5 b1 b2 b3 T) := by
  intro b1 b2 b3 T
  unfold m_X6_best_92
  refine g_iload_n h 2 dX6_best_92 rfl rfl ?_
  refine g_sub (lv' := [(0, .ref (th ω 0 0)), (1, .int b1), (3, .int b3)]) [0, 1, 3] rfl ?_
  exact b_X6_best_93 h hR _ hκ5 _ _ _ _
set_option maxHeartbeats 4000000 in
set_option maxRecDepth 100000 in
theorem b_X6_best_88 {Γ : Cx} {l : Launch} {ω : Wd} {M0 : Mm}  (h : CxOk Γ l ⟨1, 0, 0, 21⟩ 6 ω LM cX6_best yX6_best.cls wsX6_best) (hR : RetI Γ ω LM cX6_best .int) (κ5 : Int32 → Int32 → Int32 → Tm → Option (Int32 × Tm)) (hκ5 : ∀ (b1 : Int32) (b2 : Int32) (b3 : Int32) (T : Tm), Gq Γ ω LM (uM M0 0) 5 [(0, .ref (th ω 0 0)), (1, .int b1), (2, .int b2), (3, .int b3)] [] T (κ5 b1 b2 b3 T)) : ∀ (b1 : Int32) (b3 : Int32) (T : Tm), Gq Γ ω LM (uM M0 0) 88 [(0, .ref (th ω 0 0)), (1, .int b1), (3, .int b3)] [] T (m_X6_best_88 κ5 b1 b3 T) := by
  intro b1 b3 T
  unfold m_X6_best_88
  refine g_iload_n h 2 dX6_best_88 rfl rfl ?_
  refine g_goto h (tgt := 93) dX6_best_89 (by decide) ?_
  exact b_X6_best_93 h hR _ hκ5 _ _ _ _
set_option maxHeartbeats 4000000 in
set_option maxRecDepth 100000 in
theorem b_X6_best_51 {Γ : Cx} {l : Launch} {ω : Wd} {M0 : Mm}  (h : CxOk Γ l ⟨1, 0, 0, 21⟩ 6 ω LM cX6_best yX6_best.cls wsX6_best) (hR : RetI Γ ω LM cX6_best .int) (κ5 : Int32 → Int32 → Int32 → Tm → Option (Int32 × Tm)) (hκ5 : ∀ (b1 : Int32) (b2 : Int32) (b3 : Int32) (T : Tm), Gq Γ ω LM (uM M0 0) 5 [(0, .ref (th ω 0 0)), (1, .int b1), (2, .int b2), (3, .int b3)] [] T (κ5 b1 b2 b3 T)) : ∀ (b1 : Int32) (b2 : Int32) (b3 : Int32) (b4 : Int32) (s0 : Int32) (T : Tm), Gq Γ ω LM (uM M0 0) 51 [(0, .ref (th ω 0 0)), (1, .int b1), (2, .int b2), (3, .int b3), (4, .int b4)] [.int s0] T (m_X6_best_51 κ5 b1 b2 b3 b4 s0 T) := by
  intro b1 b2 b3 b4 s0 T
  unfold m_X6_best_51
  refine g_istore h (lv' := [(5, .int s0), (0, .ref (th ω 0 0)), (1, .int b1), (2, .int b2), (3, .int b3), (4, .int b4)]) dX6_best_51 (by decide) [0, 1, 2, 3, 4, 5] rfl ?_
  refine g_iload h 0 dX6_best_53 rfl ?_
  refine g_if_eq h 92 dX6_best_55 (by decide) (fun hc1 => ?_) (fun hc1 => ?_)
  · skip
    refine g_sub (lv' := [(0, .ref (th ω 0 0)), (1, .int b1), (2, .int b2), (3, .int b3)]) [1, 2, 3, 4] rfl ?_
    exact b_X6_best_92 h hR _ hκ5 _ _ _ _
  · skip
    refine g_iload_n h 3 dX6_best_58 rfl rfl ?_
    refine g_bipush h (-5) dX6_best_59 (by decide) ?_
    refine g_icmp_eq h 88 dX6_best_61 (by decide) (fun hc2 => ?_) (fun hc2 => ?_)
    · skip
      refine g_sub (lv' := [(0, .ref (th ω 0 0)), (1, .int b1), (3, .int b3)]) [1, 2, 4] rfl ?_
      exact b_X6_best_88 h hR _ hκ5 _ _ _
    · skip
      refine g_aload_n h 1 dX6_best_64 rfl rfl ?_
      refine g_getR h (index := 7) (j := 0) iM_0_0 (C := RX6) (T := TX6) (N := 13) rfl n_X6_best_6 (by decide) rfl (by decide +kernel) dX6_best_65 ?_
      refine g_iload h 5 dX6_best_68 rfl ?_
      refine g_iconst h 4 dX6_best_70 (by decide) ?_
      refine g_iadd h dX6_best_71 ?_
      refine g_iald h (v := T 1 ((b4 + 4).toNatClampNeg)) (uMr M0 0 _ _ _) iM_0_1 dX6_best_72 ?_
      refine g_ni (fun v3 => ?_)
      refine g_aload_n h 1 dX6_best_73 rfl rfl ?_
      refine g_getR h (index := 7) (j := 0) iM_0_0 (C := RX6) (T := TX6) (N := 13) rfl n_X6_best_6 (by decide) rfl (by decide +kernel) dX6_best_74 ?_
      refine g_iconst h 0 dX6_best_77 (by decide) ?_
      refine g_iload_n h 3 dX6_best_78 rfl rfl ?_
      refine g_callP h (As := [.int 0, .int b2]) (fun r t hG => c_X6_at l ω M00 0 b2 hG) 2 rfl gX6_best_X6_at rfl rfl rfl (by decide +kernel) (by decide) (st0 := _) rfl (Nat.le_of_ble_eq_true rfl) dX6_best_79 (fun r4 => ?_)
      refine g_iconst h 4 dX6_best_82 (by decide) ?_
      refine g_iadd h dX6_best_83 ?_
      refine g_iald h (v := T 1 ((r4 + 4).toNatClampNeg)) (uMr M0 0 _ _ _) iM_0_1 dX6_best_84 ?_
      refine g_ni (fun v5 => ?_)
      refine g_icmp_le h 92 dX6_best_85 (by decide) (fun hc6 => ?_) (fun hc6 => ?_)
      · skip
        refine g_sub (lv' := [(0, .ref (th ω 0 0)), (1, .int b1), (2, .int b2), (3, .int b3)]) [1, 2, 3, 4] rfl ?_
        exact b_X6_best_92 h hR _ hκ5 _ _ _ _
      · skip
        refine g_sub (lv' := [(0, .ref (th ω 0 0)), (1, .int b1), (3, .int b3)]) [1, 2, 4] rfl ?_
        exact b_X6_best_88 h hR _ hκ5 _ _ _
set_option maxHeartbeats 4000000 in
set_option maxRecDepth 100000 in
theorem b_X6_best_50 {Γ : Cx} {l : Launch} {ω : Wd} {M0 : Mm}  (h : CxOk Γ l ⟨1, 0, 0, 21⟩ 6 ω LM cX6_best yX6_best.cls wsX6_best) (hR : RetI Γ ω LM cX6_best .int) (κ5 : Int32 → Int32 → Int32 → Tm → Option (Int32 × Tm)) (hκ5 : ∀ (b1 : Int32) (b2 : Int32) (b3 : Int32) (T : Tm), Gq Γ ω LM (uM M0 0) 5 [(0, .ref (th ω 0 0)), (1, .int b1), (2, .int b2), (3, .int b3)] [] T (κ5 b1 b2 b3 T)) : ∀ (b1 : Int32) (b2 : Int32) (b3 : Int32) (b4 : Int32) (T : Tm), Gq Γ ω LM (uM M0 0) 50 [(0, .ref (th ω 0 0)), (1, .int b1), (2, .int b2), (3, .int b3), (4, .int b4)] [] T (m_X6_best_50 κ5 b1 b2 b3 b4 T) := by
  intro b1 b2 b3 b4 T
  unfold m_X6_best_50
  refine g_iconst h 0 dX6_best_50 (by decide) ?_
  exact b_X6_best_51 h hR _ hκ5 _ _ _ _ _ _
set_option maxHeartbeats 4000000 in
set_option maxRecDepth 100000 in
theorem b_X6_best_5 {Γ : Cx} {l : Launch} {ω : Wd} {M0 : Mm}  (h : CxOk Γ l ⟨1, 0, 0, 21⟩ 6 ω LM cX6_best yX6_best.cls wsX6_best) (hR : RetI Γ ω LM cX6_best .int) : ∀ (n : Nat) (b1 : Int32) (b2 : Int32) (b3 : Int32) (T : Tm), Gq Γ ω LM (uM M0 0) 5 [(0, .ref (th ω 0 0)), (1, .int b1), (2, .int b2), (3, .int b3)] [] T (m_X6_best_5 n b1 b2 b3 T) := by
  intro n
  induction n with
  | zero =>
    intro b1 b2 b3 T
    rw [m_X6_best_5.eq_1]
    exact g_none
  | succ n ih =>
    intro b1 b2 b3 T
    rw [m_X6_best_5.eq_2]
    refine g_iload_n h 3 dX6_best_5 rfl rfl ?_
    refine g_aload_n h 0 dX6_best_6 rfl rfl ?_
    refine g_getR h (index := 7) (j := 0) iM_0_0 (C := RX6) (T := TX6) (N := 13) rfl n_X6_best_6 (by decide) rfl (by decide +kernel) dX6_best_7 ?_
    refine g_iconst h 0 dX6_best_10 (by decide) ?_
    refine g_iald h (v := T 1 ((0 : Int32).toNatClampNeg)) (uMr M0 0 _ _ _) iM_0_1 dX6_best_11 ?_
    refine g_ni (fun v1 => ?_)
    refine g_icmp_ge h 100 dX6_best_12 (by decide) (fun hc2 => ?_) (fun hc2 => ?_)
    · skip
      refine g_iload_n h 2 dX6_best_100 rfl rfl ?_
      exact g_iret hR rfl dX6_best_101
    · skip
      refine g_iconst h 0 dX6_best_15 (by decide) ?_
      refine g_iload_n h 3 dX6_best_16 rfl rfl ?_
      refine g_callP h (As := [.int 0, .int b3]) (fun r t hG => c_X6_at l ω M00 0 b3 hG) 2 rfl gX6_best_X6_at rfl rfl rfl (by decide +kernel) (by decide) (st0 := _) rfl (Nat.le_of_ble_eq_true rfl) dX6_best_17 (fun r3 => ?_)
      refine g_istore h (lv' := [(4, .int r3), (0, .ref (th ω 0 0)), (1, .int b1), (2, .int b2), (3, .int b3)]) dX6_best_20 (by decide) [0, 1, 2, 3, 4] rfl ?_
      refine g_aload_n h 1 dX6_best_22 rfl rfl ?_
      refine g_getR h (index := 7) (j := 0) iM_0_0 (C := RX6) (T := TX6) (N := 13) rfl n_X6_best_6 (by decide) rfl (by decide +kernel) dX6_best_23 ?_
      refine g_iload h 0 dX6_best_26 rfl ?_
      refine g_iald h (v := T 1 r3.toNatClampNeg) (uMr M0 0 _ _ _) iM_0_1 dX6_best_28 ?_
      refine g_ni (fun v4 => ?_)
      refine g_iload_n h 2 dX6_best_29 rfl rfl ?_
      refine g_icmp_ne h 50 dX6_best_30 (by decide) (fun hc5 => ?_) (fun hc5 => ?_)
      · skip
        refine g_aload_n h 1 dX6_best_33 rfl rfl ?_
        refine g_getR h (index := 7) (j := 0) iM_0_0 (C := RX6) (T := TX6) (N := 13) rfl n_X6_best_6 (by decide) rfl (by decide +kernel) dX6_best_34 ?_
        refine g_iload h 0 dX6_best_37 rfl ?_
        refine g_bipush h 6 dX6_best_39 (by decide) ?_
        refine g_iadd h dX6_best_41 ?_
        refine g_iald h (v := T 1 ((r3 + 6).toNatClampNeg)) (uMr M0 0 _ _ _) iM_0_1 dX6_best_42 ?_
        refine g_ni (fun v6 => ?_)
        refine g_if_ne h 50 dX6_best_43 (by decide) (fun hc7 => ?_) (fun hc7 => ?_)
        · skip
          refine g_iconst h 1 dX6_best_46 (by decide) ?_
          refine g_goto h (tgt := 51) dX6_best_47 (by decide) ?_
          refine g_sub (lv' := [(0, .ref (th ω 0 0)), (1, .int b1), (2, .int b2), (3, .int b3), (4, .int r3)]) [1, 2, 3, 4, 0] rfl ?_
          exact b_X6_best_51 h hR _ ih _ _ _ _ _ _
        · skip
          refine g_sub (lv' := [(0, .ref (th ω 0 0)), (1, .int b1), (2, .int b2), (3, .int b3), (4, .int r3)]) [1, 2, 3, 4, 0] rfl ?_
          exact b_X6_best_50 h hR _ ih _ _ _ _ _
      · skip
        refine g_sub (lv' := [(0, .ref (th ω 0 0)), (1, .int b1), (2, .int b2), (3, .int b3), (4, .int r3)]) [1, 2, 3, 4, 0] rfl ?_
        exact b_X6_best_50 h hR _ ih _ _ _ _ _
set_option maxHeartbeats 4000000 in
set_option maxRecDepth 100000 in
theorem c_X6_best (l : Launch) (ω : Wd)  (M0 : Mm) (T : Tm) (a1 : Int32) {r : Int32} {T' : Tm} (hm : m_X6_best a1 T = some (r, T')) : MI l yX6_best wsX6_best ⟨1, 0, 0, 21⟩ ω LM [.ref (th ω 0 0), .int a1] (uM M0 0 T) r (uM M0 0 T') := by
  refine met_i (cc := cX6_best) (maxL := 6) (ty := .int) (by decide +kernel) rfl (Nat.le_of_ble_eq_true rfl) LM_nd ?_
  intro Γ h hR ht
  suffices K : Gq Γ ω LM (uM M0 0) 0 [(0, .ref (th ω 0 0)), (1, .int a1)] [] T (m_X6_best a1 T) from K (r, T') hm ht
  unfold m_X6_best
  refine g_bipush h (-5) dX6_best_0 (by decide) ?_
  refine g_istore_n h rfl (lv' := [(2, .int (-5)), (0, .ref (th ω 0 0)), (1, .int a1)]) dX6_best_2 (by decide) [0, 1, 2] rfl ?_
  refine g_iconst h 0 dX6_best_3 (by decide) ?_
  refine g_istore_n h rfl (lv' := [(3, .int 0), (2, .int (-5)), (0, .ref (th ω 0 0)), (1, .int a1)]) dX6_best_4 (by decide) [0, 1, 2, 3] rfl ?_
  refine g_sub (lv' := [(0, .ref (th ω 0 0)), (1, .int a1), (2, .int (-5)), (3, .int 0)]) [2, 3, 1, 0] rfl ?_
  exact b_X6_best_5 h hR fu _ _ _ _
theorem n_X6_isConker_6 : ∀ w ∈ wsX60, w ∈ wsX6_isConker := by decide +kernel
set_option maxHeartbeats 4000000 in
set_option maxRecDepth 100000 in
theorem c_X6_isConker (l : Launch) (ω : Wd)  (M0 : Mm) (T : Tm) (a1 : Int32) {r : Int32} {T' : Tm} (hm : m_X6_isConker a1 T = some (r, T')) : MI l yX6_isConker wsX6_isConker ⟨1, 0, 0, 22⟩ ω LM [.ref (th ω 0 0), .int a1] (uM M0 0 T) r (uM M0 0 T') := by
  refine met_i (cc := cX6_isConker) (maxL := 2) (ty := .boolean) (by decide +kernel) rfl (Nat.le_of_ble_eq_true rfl) LM_nd ?_
  intro Γ h hR ht
  suffices K : Gq Γ ω LM (uM M0 0) 0 [(0, .ref (th ω 0 0)), (1, .int a1)] [] T (m_X6_isConker a1 T) from K (r, T') hm ht
  unfold m_X6_isConker
  refine g_iload_n h 1 dX6_isConker_0 rfl rfl ?_
  refine g_iconst h 0 dX6_isConker_1 (by decide) ?_
  refine g_aload_n h 0 dX6_isConker_2 rfl rfl ?_
  refine g_getR h (index := 7) (j := 0) iM_0_0 (C := RX6) (T := TX6) (N := 13) rfl n_X6_isConker_6 (by decide) rfl (by decide +kernel) dX6_isConker_3 ?_
  refine g_iconst h 0 dX6_isConker_6 (by decide) ?_
  refine g_iald h (v := T 1 ((0 : Int32).toNatClampNeg)) (uMr M0 0 _ _ _) iM_0_1 dX6_isConker_7 ?_
  refine g_ni (fun v1 => ?_)
  refine g_iconst h 1 dX6_isConker_8 (by decide) ?_
  refine g_isub h dX6_isConker_9 ?_
  refine g_callP h (As := [.int a1, .int 0, .int (v1 - 1)]) (fun r t hG => c_X6_in l ω M00 a1 0 (v1 - 1) hG) 3 rfl gX6_isConker_X6_in rfl rfl rfl (by decide +kernel) (by decide) (st0 := _) rfl (Nat.le_of_ble_eq_true rfl) dX6_isConker_10 (fun r2 => ?_)
  exact g_nret hR (fun _ => rfl) dX6_isConker_13
theorem n_X6_copies_6 : ∀ w ∈ wsX60, w ∈ wsX6_copies := by decide +kernel
set_option maxHeartbeats 4000000 in
set_option maxRecDepth 100000 in
theorem b_X6_copies_2 {Γ : Cx} {l : Launch} {ω : Wd} {M0 : Mm}  (h : CxOk Γ l ⟨0, 0, 0, 0⟩ 4 ω LM cX6_copies yX6_copies.cls wsX6_copies) (hR : RetV Γ ω LM cX6_copies) : ∀ (n : Nat) (b1 : Int32) (b2 : Int32) (b3 : Int32) (T : Tm), Gq Γ ω LM (uM M0 0) 2 [(0, .ref (th ω 0 0)), (1, .int b1), (2, .int b2), (3, .int b3)] [] T (m_X6_copies_2 n b1 b2 b3 T) := by
  intro n
  induction n with
  | zero =>
    intro b1 b2 b3 T
    rw [m_X6_copies_2.eq_1]
    exact g_none
  | succ n ih =>
    intro b1 b2 b3 T
    rw [m_X6_copies_2.eq_2]
    refine g_iload_n h 3 dX6_copies_2 rfl rfl ?_
    refine g_sipush h 256 dX6_copies_3 (by decide) ?_
    refine g_icmp_ge h 39 dX6_copies_6 (by decide) (fun hc1 => ?_) (fun hc1 => ?_)
    · skip
      exact g_vret hR dX6_copies_39
    · skip
      refine g_aload_n h 0 dX6_copies_9 rfl rfl ?_
      refine g_getR h (index := 7) (j := 0) iM_0_0 (C := RX6) (T := TX6) (N := 13) rfl n_X6_copies_6 (by decide) rfl (by decide +kernel) dX6_copies_10 ?_
      refine g_sipush h 256 dX6_copies_13 (by decide) ?_
      refine g_iload_n h 2 dX6_copies_16 rfl rfl ?_
      refine g_imul h dX6_copies_17 ?_
      refine g_iload_n h 3 dX6_copies_18 rfl rfl ?_
      refine g_iadd h dX6_copies_19 ?_
      refine g_aload_n h 0 dX6_copies_20 rfl rfl ?_
      refine g_getR h (index := 7) (j := 0) iM_0_0 (C := RX6) (T := TX6) (N := 13) rfl n_X6_copies_6 (by decide) rfl (by decide +kernel) dX6_copies_21 ?_
      refine g_sipush h 256 dX6_copies_24 (by decide) ?_
      refine g_iload_n h 1 dX6_copies_27 rfl rfl ?_
      refine g_imul h dX6_copies_28 ?_
      refine g_iload_n h 3 dX6_copies_29 rfl rfl ?_
      refine g_iadd h dX6_copies_30 ?_
      refine g_iald h (v := T 1 (((256 * b1) + b3).toNatClampNeg)) (uMr M0 0 _ _ _) iM_0_1 dX6_copies_31 ?_
      refine g_ni (fun v2 => ?_)
      refine g_iast h (x' := wT T 1 (((256 * b2) + b3).toNatClampNeg) v2) (wM_uM M0 0 _ _ _ _).symm iM_0_1 dX6_copies_32 ?_
      refine g_nm (fun T3 => ?_)
      refine g_iinc h (b3 + 1) (lv' := [(3, .int (b3 + 1)), (0, .ref (th ω 0 0)), (1, .int b1), (2, .int b2)]) dX6_copies_33 3 rfl (congrArg (fun z => b3 + z) (by decide)) (by decide) [0, 1, 2, 3] rfl ?_
      refine g_goto h (tgt := 2) dX6_copies_36 (by decide) ?_
      refine g_sub (lv' := [(0, .ref (th ω 0 0)), (1, .int b1), (2, .int b2), (3, .int (b3 + 1))]) [1, 2, 3, 0] rfl ?_
      exact ih _ _ _ _
set_option maxHeartbeats 4000000 in
set_option maxRecDepth 100000 in
theorem c_X6_copies (l : Launch) (ω : Wd)  (M0 : Mm) (T : Tm) (a1 : Int32) (a2 : Int32) {r : Int32} {T' : Tm} (hm : m_X6_copies a1 a2 T = some (r, T')) : MV l yX6_copies wsX6_copies ⟨0, 0, 0, 0⟩ ω LM [.ref (th ω 0 0), .int a1, .int a2] (uM M0 0 T) (uM M0 0 T') := by
  refine met_v (cc := cX6_copies) (maxL := 4) (r := r) (by decide +kernel) rfl (Nat.le_of_ble_eq_true rfl) LM_nd ?_
  intro Γ h hR ht
  suffices K : Gq Γ ω LM (uM M0 0) 0 [(0, .ref (th ω 0 0)), (1, .int a1), (2, .int a2)] [] T (m_X6_copies a1 a2 T) from K (r, T') hm ht
  unfold m_X6_copies
  refine g_iconst h 0 dX6_copies_0 (by decide) ?_
  refine g_istore_n h rfl (lv' := [(3, .int 0), (0, .ref (th ω 0 0)), (1, .int a1), (2, .int a2)]) dX6_copies_1 (by decide) [0, 1, 2, 3] rfl ?_
  refine g_sub (lv' := [(0, .ref (th ω 0 0)), (1, .int a1), (2, .int a2), (3, .int 0)]) [1, 2, 3, 0] rfl ?_
  exact b_X6_copies_2 h hR fu _ _ _ _
theorem n_X6_records_6 : ∀ w ∈ wsX60, w ∈ wsX6_records := by decide +kernel
set_option maxHeartbeats 4000000 in
set_option maxRecDepth 100000 in
theorem b_X6_records_39 {Γ : Cx} {l : Launch} {ω : Wd} {M0 : Mm}  (h : CxOk Γ l ⟨1, 0, 0, 23⟩ 2 ω LM cX6_records yX6_records.cls wsX6_records) (hR : RetV Γ ω LM cX6_records) : ∀ (T : Tm), Gq Γ ω LM (uM M0 0) 39 [(0, .ref (th ω 0 0))] [] T (m_X6_records_39 T) := by
  intro T
  unfold m_X6_records_39
  refine g_aload_n h 0 dX6_records_39 rfl rfl ?_
  refine g_dup h dX6_records_40 rfl ?_
  refine g_getI h (v := T 0 1) (uMr M0 0 _ _ _) (index := 22) (j := 1) iM_0_0 (C := RX6) (T := TX6) (N := 13) rfl n_X6_records_6 (by decide) rfl (by decide +kernel) dX6_records_41 ?_
  refine g_ni (fun v1 => ?_)
  refine g_iconst h 1 dX6_records_44 (by decide) ?_
  refine g_iadd h dX6_records_45 ?_
  refine g_putI h (x' := wT T 0 1 (v1 + 1)) (wM_uM M0 0 _ _ _ _).symm (index := 22) (j := 1) iM_0_0 (C := RX6) (T := TX6) (N := 13) rfl n_X6_records_6 tyX6_ok nmX6 (by decide) rfl (by decide +kernel) rfl (ty := .int) (by decide +kernel) rfl rfl dX6_records_46 ?_
  refine g_nm (fun T2 => ?_)
  refine g_aload_n h 0 dX6_records_49 rfl rfl ?_
  refine g_iconst h 0 dX6_records_50 (by decide) ?_
  refine g_aload_n h 0 dX6_records_51 rfl rfl ?_
  refine g_getI h (v := T2 0 1) (uMr M0 0 _ _ _) (index := 22) (j := 1) iM_0_0 (C := RX6) (T := TX6) (N := 13) rfl n_X6_records_6 (by decide) rfl (by decide +kernel) dX6_records_52 ?_
  refine g_ni (fun v3 => ?_)
  refine g_callV h (As := [.int 0, .int v3]) (fun t => t) (fun r t hG => c_X6_copies l ω M0 _ 0 v3 hG) iM_0_0 (C := RX6) (T := TX6) (N := 13) rfl 2 rfl gX6_records_X6_copies rfl rfl rfl (by decide +kernel) (by decide) (st0 := _) rfl (Nat.le_of_ble_eq_true rfl) dX6_records_55 (fun r4 T5 => ?_)
  exact g_vret hR dX6_records_58
set_option maxHeartbeats 4000000 in
set_option maxRecDepth 100000 in
theorem b_X6_records_10 {Γ : Cx} {l : Launch} {ω : Wd} {M0 : Mm}  (h : CxOk Γ l ⟨1, 0, 0, 23⟩ 2 ω LM cX6_records yX6_records.cls wsX6_records) (hR : RetV Γ ω LM cX6_records) : ∀ (n : Nat) (b1 : Int32) (T : Tm), Gq Γ ω LM (uM M0 0) 10 [(0, .ref (th ω 0 0)), (1, .int b1)] [] T (m_X6_records_10 n b1 T) := by
  intro n
  induction n with
  | zero =>
    intro b1 T
    rw [m_X6_records_10.eq_1]
    exact g_none
  | succ n ih =>
    intro b1 T
    rw [m_X6_records_10.eq_2]
    refine g_iload_n h 1 dX6_records_10 rfl rfl ?_
    refine g_iconst h 5 dX6_records_11 (by decide) ?_
    refine g_icmp_ge h 29 dX6_records_12 (by decide) (fun hc1 => ?_) (fun hc1 => ?_)
    · skip
      refine g_aload_n h 0 dX6_records_29 rfl rfl ?_
      refine g_dup h dX6_records_30 rfl ?_
      refine g_getI h (v := T 0 1) (uMr M0 0 _ _ _) (index := 22) (j := 1) iM_0_0 (C := RX6) (T := TX6) (N := 13) rfl n_X6_records_6 (by decide) rfl (by decide +kernel) dX6_records_31 ?_
      refine g_ni (fun v2 => ?_)
      refine g_iconst h 1 dX6_records_34 (by decide) ?_
      refine g_isub h dX6_records_35 ?_
      refine g_putI h (x' := wT T 0 1 (v2 - 1)) (wM_uM M0 0 _ _ _ _).symm (index := 22) (j := 1) iM_0_0 (C := RX6) (T := TX6) (N := 13) rfl n_X6_records_6 tyX6_ok nmX6 (by decide) rfl (by decide +kernel) rfl (ty := .int) (by decide +kernel) rfl rfl dX6_records_36 ?_
      refine g_nm (fun T3 => ?_)
      refine g_sub (lv' := [(0, .ref (th ω 0 0))]) [0] rfl ?_
      exact b_X6_records_39 h hR _
    · skip
      refine g_aload_n h 0 dX6_records_15 rfl rfl ?_
      refine g_iload_n h 1 dX6_records_16 rfl rfl ?_
      refine g_iconst h 1 dX6_records_17 (by decide) ?_
      refine g_iadd h dX6_records_18 ?_
      refine g_iload_n h 1 dX6_records_19 rfl rfl ?_
      refine g_callV h (As := [.int (b1 + 1), .int b1]) (fun t => t) (fun r t hG => c_X6_copies l ω M0 _ (b1 + 1) b1 hG) iM_0_0 (C := RX6) (T := TX6) (N := 13) rfl 2 rfl gX6_records_X6_copies rfl rfl rfl (by decide +kernel) (by decide) (st0 := _) rfl (Nat.le_of_ble_eq_true rfl) dX6_records_20 (fun r4 T5 => ?_)
      refine g_iinc h (b1 + 1) (lv' := [(1, .int (b1 + 1)), (0, .ref (th ω 0 0))]) dX6_records_23 1 rfl (congrArg (fun z => b1 + z) (by decide)) (by decide) [0, 1] rfl ?_
      refine g_goto h (tgt := 10) dX6_records_26 (by decide) ?_
      refine g_sub (lv' := [(0, .ref (th ω 0 0)), (1, .int (b1 + 1))]) [1, 0] rfl ?_
      exact ih _ _
set_option maxHeartbeats 4000000 in
set_option maxRecDepth 100000 in
theorem c_X6_records (l : Launch) (ω : Wd)  (M0 : Mm) (T : Tm) {r : Int32} {T' : Tm} (hm : m_X6_records T = some (r, T')) : MV l yX6_records wsX6_records ⟨1, 0, 0, 23⟩ ω LM [.ref (th ω 0 0)] (uM M0 0 T) (uM M0 0 T') := by
  refine met_v (cc := cX6_records) (maxL := 2) (r := r) (by decide +kernel) rfl (Nat.le_of_ble_eq_true rfl) LM_nd ?_
  intro Γ h hR ht
  suffices K : Gq Γ ω LM (uM M0 0) 0 [(0, .ref (th ω 0 0))] [] T (m_X6_records T) from K (r, T') hm ht
  unfold m_X6_records
  refine g_aload_n h 0 dX6_records_0 rfl rfl ?_
  refine g_getI h (v := T 0 1) (uMr M0 0 _ _ _) (index := 22) (j := 1) iM_0_0 (C := RX6) (T := TX6) (N := 13) rfl n_X6_records_6 (by decide) rfl (by decide +kernel) dX6_records_1 ?_
  refine g_ni (fun v1 => ?_)
  refine g_iconst h 5 dX6_records_4 (by decide) ?_
  refine g_icmp_ne h 39 dX6_records_5 (by decide) (fun hc2 => ?_) (fun hc2 => ?_)
  · skip
    refine g_iconst h 1 dX6_records_8 (by decide) ?_
    refine g_istore_n h rfl (lv' := [(1, .int 1), (0, .ref (th ω 0 0))]) dX6_records_9 (by decide) [0, 1] rfl ?_
    refine g_sub (lv' := [(0, .ref (th ω 0 0)), (1, .int 1)]) [1, 0] rfl ?_
    exact b_X6_records_10 h hR fu _ _
  · skip
    exact b_X6_records_39 h hR _
theorem n_X6_boast_6 : ∀ w ∈ wsX60, w ∈ wsX6_boast := by decide +kernel
set_option maxHeartbeats 4000000 in
set_option maxRecDepth 100000 in
theorem c_X6_boast (l : Launch) (ω : Wd)  (M0 : Mm) (T : Tm) (a1 : Int32) (a2 : Int32) {r : Int32} {T' : Tm} (hm : m_X6_boast a1 a2 T = some (r, T')) : MI l yX6_boast wsX6_boast ⟨2, 0, 0, 44⟩ ω LM [.ref (th ω 0 0), .int a1, .int a2] (uM M0 0 T) r (uM M0 0 T') := by
  refine met_i (cc := cX6_boast) (maxL := 5) (ty := .int) (by decide +kernel) rfl (Nat.le_of_ble_eq_true rfl) LM_nd ?_
  intro Γ h hR ht
  suffices K : Gq Γ ω LM (uM M0 0) 0 [(0, .ref (th ω 0 0)), (1, .int a1), (2, .int a2)] [] T (m_X6_boast a1 a2 T) from K (r, T') hm ht
  unfold m_X6_boast
  refine g_aload_n h 0 dX6_boast_0 rfl rfl ?_
  refine g_iload_n h 1 dX6_boast_1 rfl rfl ?_
  refine g_callI h (As := [.int a1]) (fun t => t) (fun r t hG => c_X6_isConker l ω M0 _ a1 hG) iM_0_0 (C := RX6) (T := TX6) (N := 13) rfl 1 rfl gX6_boast_X6_isConker rfl rfl rfl (by decide +kernel) (by decide) (st0 := _) rfl (Nat.le_of_ble_eq_true rfl) dX6_boast_2 (fun r1 T2 => ?_)
  refine g_if_ne h 10 dX6_boast_5 (by decide) (fun hc3 => ?_) (fun hc3 => ?_)
  · skip
    refine g_iconst h (-1) dX6_boast_8 (by decide) ?_
    exact g_iret hR rfl dX6_boast_9
  · skip
    refine g_iload_n h 2 dX6_boast_10 rfl rfl ?_
    refine g_iconst h 0 dX6_boast_11 (by decide) ?_
    refine g_bipush h 99 dX6_boast_12 (by decide) ?_
    refine g_callP h (As := [.int a2, .int 0, .int 99]) (fun r t hG => c_X6_in l ω M00 a2 0 99 hG) 3 rfl gX6_boast_X6_in rfl rfl rfl (by decide +kernel) (by decide) (st0 := _) rfl (Nat.le_of_ble_eq_true rfl) dX6_boast_14 (fun r4 => ?_)
    refine g_if_ne h 23 dX6_boast_17 (by decide) (fun hc5 => ?_) (fun hc5 => ?_)
    · skip
      refine g_bipush h (-2) dX6_boast_20 (by decide) ?_
      exact g_iret hR rfl dX6_boast_22
    · skip
      refine g_iconst h 0 dX6_boast_23 (by decide) ?_
      refine g_iload_n h 1 dX6_boast_24 rfl rfl ?_
      refine g_callP h (As := [.int 0, .int a1]) (fun r t hG => c_X6_at l ω M00 0 a1 hG) 2 rfl gX6_boast_X6_at rfl rfl rfl (by decide +kernel) (by decide) (st0 := _) rfl (Nat.le_of_ble_eq_true rfl) dX6_boast_25 (fun r6 => ?_)
      refine g_istore_n h rfl (lv' := [(3, .int r6), (0, .ref (th ω 0 0)), (1, .int a1), (2, .int a2)]) dX6_boast_28 (by decide) [0, 1, 2, 3] rfl ?_
      refine g_aload_n h 1 dX6_boast_29 rfl rfl ?_
      refine g_getR h (index := 7) (j := 0) iM_0_0 (C := RX6) (T := TX6) (N := 13) rfl n_X6_boast_6 (by decide) rfl (by decide +kernel) dX6_boast_30 ?_
      refine g_iload_n h 0 dX6_boast_33 rfl rfl ?_
      refine g_bipush h 6 dX6_boast_34 (by decide) ?_
      refine g_iadd h dX6_boast_36 ?_
      refine g_iald h (v := T2 1 ((r6 + 6).toNatClampNeg)) (uMr M0 0 _ _ _) iM_0_1 dX6_boast_37 ?_
      refine g_ni (fun v7 => ?_)
      refine g_iconst h 2 dX6_boast_38 (by decide) ?_
      refine g_icmp_ne h 45 dX6_boast_39 (by decide) (fun hc8 => ?_) (fun hc8 => ?_)
      · skip
        refine g_bipush h (-4) dX6_boast_42 (by decide) ?_
        exact g_iret hR rfl dX6_boast_44
      · skip
        refine g_aload_n h 1 dX6_boast_45 rfl rfl ?_
        refine g_callV h (As := []) (fun t => t) (fun r t hG => c_X6_records l ω M0 _ hG) iM_0_0 (C := RX6) (T := TX6) (N := 13) rfl 0 rfl gX6_boast_X6_records rfl rfl rfl (by decide +kernel) (by decide) (st0 := _) rfl (Nat.le_of_ble_eq_true rfl) dX6_boast_46 (fun r9 T10 => ?_)
        refine g_aload_n h 1 dX6_boast_49 rfl rfl ?_
        refine g_getR h (index := 7) (j := 0) iM_0_0 (C := RX6) (T := TX6) (N := 13) rfl n_X6_boast_6 (by decide) rfl (by decide +kernel) dX6_boast_50 ?_
        refine g_iload_n h 0 dX6_boast_53 rfl rfl ?_
        refine g_iconst h 5 dX6_boast_54 (by decide) ?_
        refine g_iadd h dX6_boast_55 ?_
        refine g_iald h (v := T10 1 ((r6 + 5).toNatClampNeg)) (uMr M0 0 _ _ _) iM_0_1 dX6_boast_56 ?_
        refine g_ni (fun v11 => ?_)
        refine g_istore h (lv' := [(4, .int v11), (3, .int r6), (0, .ref (th ω 0 0)), (1, .int a1), (2, .int a2)]) dX6_boast_57 (by decide) [0, 1, 2, 3, 4] rfl ?_
        refine g_aload_n h 2 dX6_boast_59 rfl rfl ?_
        refine g_getR h (index := 7) (j := 0) iM_0_0 (C := RX6) (T := TX6) (N := 13) rfl n_X6_boast_6 (by decide) rfl (by decide +kernel) dX6_boast_60 ?_
        refine g_iload_n h 1 dX6_boast_63 rfl rfl ?_
        refine g_iconst h 5 dX6_boast_64 (by decide) ?_
        refine g_iadd h dX6_boast_65 ?_
        refine g_iload_n h 4 dX6_boast_66 rfl rfl ?_
        refine g_iast h (x' := wT T10 1 ((r6 + 5).toNatClampNeg) a2) (wM_uM M0 0 _ _ _ _).symm iM_0_1 dX6_boast_67 ?_
        refine g_nm (fun T12 => ?_)
        refine g_iload h 0 dX6_boast_68 rfl ?_
        exact g_iret hR rfl dX6_boast_70
theorem n_X6_boasts_6 : ∀ w ∈ wsX60, w ∈ wsX6_boasts := by decide +kernel
set_option maxHeartbeats 4000000 in
set_option maxRecDepth 100000 in
theorem b_X6_boasts_66 {Γ : Cx} {l : Launch} {ω : Wd} {M0 : Mm}  (h : CxOk Γ l ⟨1, 0, 0, 21⟩ 5 ω LM cX6_boasts yX6_boasts.cls wsX6_boasts) (hR : RetI Γ ω LM cX6_boasts .int) (κ4 : Int32 → Int32 → Int32 → Tm → Option (Int32 × Tm)) (hκ4 : ∀ (b1 : Int32) (b2 : Int32) (b3 : Int32) (T : Tm), Gq Γ ω LM (uM M0 0) 4 [(0, .ref (th ω 0 0)), (1, .int b1), (2, .int b2), (3, .int b3)] [] T (κ4 b1 b2 b3 T)) : ∀ (b1 : Int32) (b3 : Int32) (s0 : Int32) (s1 : Int32) (T : Tm), Gq Γ ω LM (uM M0 0) 66 [(0, .ref (th ω 0 0)), (1, .int b1), (3, .int b3)] [.int s1, .int s0] T (m_X6_boasts_66 κ4 b1 b3 s0 s1 T) := by
  intro b1 b3 s0 s1 T
  unfold m_X6_boasts_66
  refine g_callP h (As := [.int s1]) (fun r t hG => c_X6_flag l ω M00 s1 hG) 1 rfl gX6_boasts_X6_flag rfl rfl rfl (by decide +kernel) (by decide) (st0 := _) rfl (Nat.le_of_ble_eq_true rfl) dX6_boasts_66 (fun r1 => ?_)
  refine g_iadd h dX6_boasts_69 ?_
  refine g_istore_n h rfl (lv' := [(2, .int (s0 + r1)), (0, .ref (th ω 0 0)), (1, .int b1), (3, .int b3)]) dX6_boasts_70 (by decide) [0, 1, 2, 3] rfl ?_
  refine g_iinc h (b3 + 1) (lv' := [(3, .int (b3 + 1)), (2, .int (s0 + r1)), (0, .ref (th ω 0 0)), (1, .int b1)]) dX6_boasts_71 3 rfl (congrArg (fun z => b3 + z) (by decide)) (by decide) [0, 1, 2, 3] rfl ?_
  refine g_goto h (tgt := 4) dX6_boasts_74 (by decide) ?_
  refine g_sub (lv' := [(0, .ref (th ω 0 0)), (1, .int b1), (2, .int (s0 + r1)), (3, .int (b3 + 1))]) [2, 3, 1, 0] rfl ?_
  exact hκ4 _ _ _ _
set_option maxHeartbeats 4000000 in
set_option maxRecDepth 100000 in
theorem b_X6_boasts_65 {Γ : Cx} {l : Launch} {ω : Wd} {M0 : Mm}  (h : CxOk Γ l ⟨1, 0, 0, 21⟩ 5 ω LM cX6_boasts yX6_boasts.cls wsX6_boasts) (hR : RetI Γ ω LM cX6_boasts .int) (κ4 : Int32 → Int32 → Int32 → Tm → Option (Int32 × Tm)) (hκ4 : ∀ (b1 : Int32) (b2 : Int32) (b3 : Int32) (T : Tm), Gq Γ ω LM (uM M0 0) 4 [(0, .ref (th ω 0 0)), (1, .int b1), (2, .int b2), (3, .int b3)] [] T (κ4 b1 b2 b3 T)) : ∀ (b1 : Int32) (b3 : Int32) (s0 : Int32) (T : Tm), Gq Γ ω LM (uM M0 0) 65 [(0, .ref (th ω 0 0)), (1, .int b1), (3, .int b3)] [.int s0] T (m_X6_boasts_65 κ4 b1 b3 s0 T) := by
  intro b1 b3 s0 T
  unfold m_X6_boasts_65
  refine g_iconst h 0 dX6_boasts_65 (by decide) ?_
  exact b_X6_boasts_66 h hR _ hκ4 _ _ _ _ _
set_option maxHeartbeats 4000000 in
set_option maxRecDepth 100000 in
theorem b_X6_boasts_61 {Γ : Cx} {l : Launch} {ω : Wd} {M0 : Mm}  (h : CxOk Γ l ⟨1, 0, 0, 21⟩ 5 ω LM cX6_boasts yX6_boasts.cls wsX6_boasts) (hR : RetI Γ ω LM cX6_boasts .int) (κ4 : Int32 → Int32 → Int32 → Tm → Option (Int32 × Tm)) (hκ4 : ∀ (b1 : Int32) (b2 : Int32) (b3 : Int32) (T : Tm), Gq Γ ω LM (uM M0 0) 4 [(0, .ref (th ω 0 0)), (1, .int b1), (2, .int b2), (3, .int b3)] [] T (κ4 b1 b2 b3 T)) : ∀ (b1 : Int32) (b3 : Int32) (s0 : Int32) (T : Tm), Gq Γ ω LM (uM M0 0) 61 [(0, .ref (th ω 0 0)), (1, .int b1), (3, .int b3)] [.int s0] T (m_X6_boasts_61 κ4 b1 b3 s0 T) := by
  intro b1 b3 s0 T
  unfold m_X6_boasts_61
  refine g_iconst h 1 dX6_boasts_61 (by decide) ?_
  refine g_goto h (tgt := 66) dX6_boasts_62 (by decide) ?_
  exact b_X6_boasts_66 h hR _ hκ4 _ _ _ _ _
set_option maxHeartbeats 4000000 in
set_option maxRecDepth 100000 in
theorem b_X6_boasts_4 {Γ : Cx} {l : Launch} {ω : Wd} {M0 : Mm}  (h : CxOk Γ l ⟨1, 0, 0, 21⟩ 5 ω LM cX6_boasts yX6_boasts.cls wsX6_boasts) (hR : RetI Γ ω LM cX6_boasts .int) : ∀ (n : Nat) (b1 : Int32) (b2 : Int32) (b3 : Int32) (T : Tm), Gq Γ ω LM (uM M0 0) 4 [(0, .ref (th ω 0 0)), (1, .int b1), (2, .int b2), (3, .int b3)] [] T (m_X6_boasts_4 n b1 b2 b3 T) := by
  intro n
  induction n with
  | zero =>
    intro b1 b2 b3 T
    rw [m_X6_boasts_4.eq_1]
    exact g_none
  | succ n ih =>
    intro b1 b2 b3 T
    rw [m_X6_boasts_4.eq_2]
    refine g_iload_n h 3 dX6_boasts_4 rfl rfl ?_
    refine g_aload_n h 0 dX6_boasts_5 rfl rfl ?_
    refine g_getR h (index := 7) (j := 0) iM_0_0 (C := RX6) (T := TX6) (N := 13) rfl n_X6_boasts_6 (by decide) rfl (by decide +kernel) dX6_boasts_6 ?_
    refine g_iconst h 0 dX6_boasts_9 (by decide) ?_
    refine g_iald h (v := T 1 ((0 : Int32).toNatClampNeg)) (uMr M0 0 _ _ _) iM_0_1 dX6_boasts_10 ?_
    refine g_ni (fun v1 => ?_)
    refine g_icmp_ge h 77 dX6_boasts_11 (by decide) (fun hc2 => ?_) (fun hc2 => ?_)
    · skip
      refine g_iload_n h 2 dX6_boasts_77 rfl rfl ?_
      exact g_iret hR rfl dX6_boasts_78
    · skip
      refine g_iconst h 0 dX6_boasts_14 (by decide) ?_
      refine g_iload_n h 3 dX6_boasts_15 rfl rfl ?_
      refine g_callP h (As := [.int 0, .int b3]) (fun r t hG => c_X6_at l ω M00 0 b3 hG) 2 rfl gX6_boasts_X6_at rfl rfl rfl (by decide +kernel) (by decide) (st0 := _) rfl (Nat.le_of_ble_eq_true rfl) dX6_boasts_16 (fun r3 => ?_)
      refine g_istore h (lv' := [(4, .int r3), (0, .ref (th ω 0 0)), (1, .int b1), (2, .int b2), (3, .int b3)]) dX6_boasts_19 (by decide) [0, 1, 2, 3, 4] rfl ?_
      refine g_iload_n h 3 dX6_boasts_21 rfl rfl ?_
      refine g_aload_n h 1 dX6_boasts_22 rfl rfl ?_
      refine g_getR h (index := 7) (j := 0) iM_0_0 (C := RX6) (T := TX6) (N := 13) rfl n_X6_boasts_6 (by decide) rfl (by decide +kernel) dX6_boasts_23 ?_
      refine g_iload h 0 dX6_boasts_26 rfl ?_
      refine g_iconst h 5 dX6_boasts_28 (by decide) ?_
      refine g_iadd h dX6_boasts_29 ?_
      refine g_iald h (v := T 1 ((r3 + 5).toNatClampNeg)) (uMr M0 0 _ _ _) iM_0_1 dX6_boasts_30 ?_
      refine g_ni (fun v4 => ?_)
      refine g_bipush h (-5) dX6_boasts_31 (by decide) ?_
      refine g_icmp_eq h 65 dX6_boasts_33 (by decide) (fun hc5 => ?_) (fun hc5 => ?_)
      · skip
        refine g_sub (lv' := [(0, .ref (th ω 0 0)), (1, .int b1), (3, .int b3)]) [1, 2, 4] rfl ?_
        exact b_X6_boasts_65 h hR _ ih _ _ _ _
      · skip
        refine g_iload_n h 2 dX6_boasts_36 rfl rfl ?_
        refine g_if_eq h 61 dX6_boasts_37 (by decide) (fun hc6 => ?_) (fun hc6 => ?_)
        · skip
          refine g_sub (lv' := [(0, .ref (th ω 0 0)), (1, .int b1), (3, .int b3)]) [1, 2, 4] rfl ?_
          exact b_X6_boasts_61 h hR _ ih _ _ _ _
        · skip
          refine g_aload_n h 1 dX6_boasts_40 rfl rfl ?_
          refine g_getR h (index := 7) (j := 0) iM_0_0 (C := RX6) (T := TX6) (N := 13) rfl n_X6_boasts_6 (by decide) rfl (by decide +kernel) dX6_boasts_41 ?_
          refine g_iload h 0 dX6_boasts_44 rfl ?_
          refine g_iconst h 5 dX6_boasts_46 (by decide) ?_
          refine g_iadd h dX6_boasts_47 ?_
          refine g_iald h (v := T 1 ((r3 + 5).toNatClampNeg)) (uMr M0 0 _ _ _) iM_0_1 dX6_boasts_48 ?_
          refine g_ni (fun v7 => ?_)
          refine g_aload_n h 1 dX6_boasts_49 rfl rfl ?_
          refine g_getR h (index := 7) (j := 0) iM_0_0 (C := RX6) (T := TX6) (N := 13) rfl n_X6_boasts_6 (by decide) rfl (by decide +kernel) dX6_boasts_50 ?_
          refine g_iload h 0 dX6_boasts_53 rfl ?_
          refine g_iconst h 4 dX6_boasts_55 (by decide) ?_
          refine g_iadd h dX6_boasts_56 ?_
          refine g_iald h (v := T 1 ((r3 + 4).toNatClampNeg)) (uMr M0 0 _ _ _) iM_0_1 dX6_boasts_57 ?_
          refine g_ni (fun v8 => ?_)
          refine g_icmp_le h 65 dX6_boasts_58 (by decide) (fun hc9 => ?_) (fun hc9 => ?_)
          · skip
            refine g_sub (lv' := [(0, .ref (th ω 0 0)), (1, .int b1), (3, .int b3)]) [1, 2, 4] rfl ?_
            exact b_X6_boasts_65 h hR _ ih _ _ _ _
          · skip
            refine g_sub (lv' := [(0, .ref (th ω 0 0)), (1, .int b1), (3, .int b3)]) [1, 2, 4] rfl ?_
            exact b_X6_boasts_61 h hR _ ih _ _ _ _
set_option maxHeartbeats 4000000 in
set_option maxRecDepth 100000 in
theorem c_X6_boasts (l : Launch) (ω : Wd)  (M0 : Mm) (T : Tm) (a1 : Int32) {r : Int32} {T' : Tm} (hm : m_X6_boasts a1 T = some (r, T')) : MI l yX6_boasts wsX6_boasts ⟨1, 0, 0, 21⟩ ω LM [.ref (th ω 0 0), .int a1] (uM M0 0 T) r (uM M0 0 T') := by
  refine met_i (cc := cX6_boasts) (maxL := 5) (ty := .int) (by decide +kernel) rfl (Nat.le_of_ble_eq_true rfl) LM_nd ?_
  intro Γ h hR ht
  suffices K : Gq Γ ω LM (uM M0 0) 0 [(0, .ref (th ω 0 0)), (1, .int a1)] [] T (m_X6_boasts a1 T) from K (r, T') hm ht
  unfold m_X6_boasts
  refine g_iconst h 0 dX6_boasts_0 (by decide) ?_
  refine g_istore_n h rfl (lv' := [(2, .int 0), (0, .ref (th ω 0 0)), (1, .int a1)]) dX6_boasts_1 (by decide) [0, 1, 2] rfl ?_
  refine g_iconst h 0 dX6_boasts_2 (by decide) ?_
  refine g_istore_n h rfl (lv' := [(3, .int 0), (2, .int 0), (0, .ref (th ω 0 0)), (1, .int a1)]) dX6_boasts_3 (by decide) [0, 1, 2, 3] rfl ?_
  refine g_sub (lv' := [(0, .ref (th ω 0 0)), (1, .int a1), (2, .int 0), (3, .int 0)]) [2, 3, 1, 0] rfl ?_
  exact b_X6_boasts_4 h hR fu _ _ _ _
