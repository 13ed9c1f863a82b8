/-! WALKS (written by wip/whole/gen.py): X0_begin, X0_next, X0_swing, X4_copyFrom, X1_bringBack, X1_dropOldest, X1_keep, X2_insert, X4_conkerToSend, X2_lineUp, X2_takeOut, X4_addConker, X4_areInPlay, X4_boastsTold, X4_boastsTooHigh, X5_isWithin, X4_hasConker, X4_pairError -/
theorem n_X0_begin_0 : ∀ w ∈ wsX00, w ∈ wsX0_begin := by decide +kernel
set_option maxHeartbeats 4000000 in
set_option maxRecDepth 100000 in
theorem c_X0_begin (l : Launch) (ω : Wd)  (M0 : Mm) (T : Tm) (a1 : Int32) {r : Int32} {T' : Tm} (hm : m_X0_begin a1 T = some (r, T')) : MV l yX0_begin wsX0_begin ⟨0, 0, 0, 0⟩ ω LC [.ref (th ω 10 0), .int a1] (uM M0 10 T) (uM M0 10 T') := by
  refine met_v (cc := cX0_begin) (maxL := 2) (r := r) (by decide +kernel) rfl (Nat.le_of_ble_eq_true rfl) LC_nd ?_
  intro Γ h hR ht
  suffices K : Gq 0 Γ ω LC (uM M0 10) 0 [(0, .ref (th ω 10 0)), (1, .int a1)] [] T (m_X0_begin a1 T) from K (r, T') hm ht (c0 Γ)
  unfold m_X0_begin
  refine g_aload_n h 0 dX0_begin_0 rfl rfl ?_
  refine g_iload_n h 1 dX0_begin_1 rfl rfl ?_
  refine g_putI h (x' := wT T 0 0 a1) (wM_uM M0 10 _ _ _ _).symm (index := 7) (j := 0) iC_10_0 (C := RX0) (T := TX0) (N := 1) rfl n_X0_begin_0 tyX0_ok nmX0 (by decide) rfl (by decide +kernel) rfl (ty := .int) (by decide +kernel) rfl rfl dX0_begin_2 ?_
  refine g_nm (fun T1 => ?_)
  exact g_vret hR dX0_begin_5
theorem n_X0_next_0 : ∀ w ∈ wsX00, w ∈ wsX0_next := by decide +kernel
set_option maxHeartbeats 4000000 in
set_option maxRecDepth 100000 in
theorem c_X0_next (l : Launch) (ω : Wd)  (M0 : Mm) (T : Tm) {r : Int32} {T' : Tm} (hm : m_X0_next T = some (r, T')) : MI l yX0_next wsX0_next ⟨0, 0, 0, 0⟩ ω LC [.ref (th ω 10 0)] (uM M0 10 T) r (uM M0 10 T') := by
  refine met_i (cc := cX0_next) (maxL := 1) (ty := .int) (by decide +kernel) rfl (Nat.le_of_ble_eq_true rfl) LC_nd ?_
  intro Γ h hR ht
  suffices K : Gq 0 Γ ω LC (uM M0 10) 0 [(0, .ref (th ω 10 0))] [] T (m_X0_next T) from K (r, T') hm ht (c0 Γ)
  unfold m_X0_next
  refine g_aload_n h 0 dX0_next_0 rfl rfl ?_
  refine g_sipush h 25173 dX0_next_1 (by decide) ?_
  refine g_aload_n h 0 dX0_next_4 rfl rfl ?_
  refine g_getI h (v := T 0 0) (uMr M0 10 _ _ _) (index := 7) (j := 0) iC_10_0 (C := RX0) (T := TX0) (N := 1) rfl n_X0_next_0 (by decide) rfl (by decide +kernel) dX0_next_5 ?_
  refine g_ni (fun v1 => ?_)
  refine g_imul h dX0_next_8 ?_
  refine g_sipush h 13849 dX0_next_9 (by decide) ?_
  refine g_iadd h dX0_next_12 ?_
  refine g_ldc h 65536 dX0_next_13 (by decide +kernel) ?_
  refine g_irem h dX0_next_15 ?_
  refine g_putI h (x' := wT T 0 0 (((25173 * v1) + 13849) - ((25173 * v1) + 13849) / 65536 * 65536)) (wM_uM M0 10 _ _ _ _).symm (index := 7) (j := 0) iC_10_0 (C := RX0) (T := TX0) (N := 1) rfl n_X0_next_0 tyX0_ok nmX0 (by decide) rfl (by decide +kernel) rfl (ty := .int) (by decide +kernel) rfl rfl dX0_next_16 ?_
  refine g_nm (fun T2 => ?_)
  refine g_aload_n h 0 dX0_next_19 rfl rfl ?_
  refine g_getI h (v := T2 0 0) (uMr M0 10 _ _ _) (index := 7) (j := 0) iC_10_0 (C := RX0) (T := TX0) (N := 1) rfl n_X0_next_0 (by decide) rfl (by decide +kernel) dX0_next_20 ?_
  refine g_ni (fun v3 => ?_)
  exact g_iret hR rfl dX0_next_23
set_option maxHeartbeats 4000000 in
set_option maxRecDepth 100000 in
theorem c_X0_swing (l : Launch) (ω : Wd)  (M0 : Mm) (T : Tm) {r : Int32} {T' : Tm} (hm : m_X0_swing T = some (r, T')) : MI l yX0_swing wsX0_swing ⟨1, 0, 0, 20⟩ ω LC [.ref (th ω 10 0)] (uM M0 10 T) r (uM M0 10 T') := by
  refine met_i (cc := cX0_swing) (maxL := 1) (ty := .int) (by decide +kernel) rfl (Nat.le_of_ble_eq_true rfl) LC_nd ?_
  intro Γ h hR ht
  suffices K : Gq 0 Γ ω LC (uM M0 10) 0 [(0, .ref (th ω 10 0))] [] T (m_X0_swing T) from K (r, T') hm ht (c0 Γ)
  unfold m_X0_swing
  refine g_iconst h 1 dX0_swing_0 (by decide) ?_
  refine g_aload_n h 0 dX0_swing_1 rfl rfl ?_
  refine g_callI h (As := []) (fun t => t) (fun r t hG => c_X0_next l ω M0 _ hG) iC_10_0 (C := RX0) (T := TX0) (N := 1) rfl 0 rfl gX0_swing_X0_next rfl rfl rfl (by decide +kernel) (by decide) (st0 := _) rfl (Nat.le_of_ble_eq_true rfl) dX0_swing_2 (fun r1 T2 => ?_)
  refine g_sipush h 7282 dX0_swing_5 (by decide) ?_
  refine g_idiv h dX0_swing_8 ?_
  refine g_iadd h dX0_swing_9 ?_
  exact g_iret hR rfl dX0_swing_10
theorem n_X4_copyFrom_4 : ∀ w ∈ wsX40, w ∈ wsX4_copyFrom := by decide +kernel
set_option maxHeartbeats 4000000 in
set_option maxRecDepth 100000 in
theorem c_X4_copyFrom (l : Launch) (ω : Wd) (k : Nat) (k2 : Nat) (hk : kS k) (hk2 : kS k2) (M : Mm) {r : Int32} {M' : Mm} (hm : m_X4_copyFrom k k2 M = some (r, M')) : MV l yX4_copyFrom wsX4_copyFrom ⟨1, 0, 0, 40⟩ ω LC [.ref (th ω k 0), .ref (th ω k2 0)] M M' := by
  refine met_v (cc := cX4_copyFrom) (maxL := 2) (r := r) (by decide +kernel) rfl (Nat.le_of_ble_eq_true rfl) LC_nd ?_
  intro Γ h hR ht
  suffices K : Gq 0 Γ ω LC eI 0 [(0, .ref (th ω k 0)), (1, .ref (th ω k2 0))] [] M (m_X4_copyFrom k k2 M) from K (r, M') hm ht (c0 Γ)
  unfold m_X4_copyFrom
  refine g_aload_n h 1 dX4_copyFrom_0 rfl rfl ?_
  refine g_getR h (index := 9) (j := 0) (inS hk2 0 (by decide)) (C := RX4) (T := TX4) (N := 13) rfl n_X4_copyFrom_4 (by decide) rfl (by decide +kernel) dX4_copyFrom_1 ?_
  refine g_iconst h 0 dX4_copyFrom_4 (by decide) ?_
  refine g_aload_n h 0 dX4_copyFrom_5 rfl rfl ?_
  refine g_getR h (index := 9) (j := 0) (inS hk 0 (by decide)) (C := RX4) (T := TX4) (N := 13) rfl n_X4_copyFrom_4 (by decide) rfl (by decide +kernel) dX4_copyFrom_6 ?_
  refine g_iconst h 0 dX4_copyFrom_9 (by decide) ?_
  refine g_bipush h 6 dX4_copyFrom_10 (by decide) ?_
  refine g_copy h (x' := uM M k (cT (M k) 1 (M k2 1) 6)) (by rfl) (index := 52) (inS hk2 1 (by decide)) (inS hk 1 (by decide)) (by decide) (by decide) (by decide) (by decide +kernel) (by decide +kernel) (by decide +kernel) (by decide +kernel) (by decide) (Nat.le_of_ble_eq_true rfl) dX4_copyFrom_12 ?_
  refine g_nm (fun M1 => ?_)
  refine g_aload_n h 1 dX4_copyFrom_15 rfl rfl ?_
  refine g_getR h (index := 15) (j := 1) (inS hk2 0 (by decide)) (C := RX4) (T := TX4) (N := 13) rfl n_X4_copyFrom_4 (by decide) rfl (by decide +kernel) dX4_copyFrom_16 ?_
  refine g_iconst h 0 dX4_copyFrom_19 (by decide) ?_
  refine g_aload_n h 0 dX4_copyFrom_20 rfl rfl ?_
  refine g_getR h (index := 15) (j := 1) (inS hk 0 (by decide)) (C := RX4) (T := TX4) (N := 13) rfl n_X4_copyFrom_4 (by decide) rfl (by decide +kernel) dX4_copyFrom_21 ?_
  refine g_iconst h 0 dX4_copyFrom_24 (by decide) ?_
  refine g_bipush h 6 dX4_copyFrom_25 (by decide) ?_
  refine g_copy h (x' := uM M1 k (cT (M1 k) 2 (M1 k2 2) 6)) (by rfl) (index := 52) (inS hk2 2 (by decide)) (inS hk 2 (by decide)) (by decide) (by decide) (by decide) (by decide +kernel) (by decide +kernel) (by decide +kernel) (by decide +kernel) (by decide) (Nat.le_of_ble_eq_true rfl) dX4_copyFrom_27 ?_
  refine g_nm (fun M2 => ?_)
  refine g_aload_n h 1 dX4_copyFrom_30 rfl rfl ?_
  refine g_getR h (index := 18) (j := 2) (inS hk2 0 (by decide)) (C := RX4) (T := TX4) (N := 13) rfl n_X4_copyFrom_4 (by decide) rfl (by decide +kernel) dX4_copyFrom_31 ?_
  refine g_iconst h 0 dX4_copyFrom_34 (by decide) ?_
  refine g_aload_n h 0 dX4_copyFrom_35 rfl rfl ?_
  refine g_getR h (index := 18) (j := 2) (inS hk 0 (by decide)) (C := RX4) (T := TX4) (N := 13) rfl n_X4_copyFrom_4 (by decide) rfl (by decide +kernel) dX4_copyFrom_36 ?_
  refine g_iconst h 0 dX4_copyFrom_39 (by decide) ?_
  refine g_bipush h 30 dX4_copyFrom_40 (by decide) ?_
  refine g_copy h (x' := uM M2 k (cT (M2 k) 3 (M2 k2 3) 30)) (by rfl) (index := 52) (inS hk2 3 (by decide)) (inS hk 3 (by decide)) (by decide) (by decide) (by decide) (by decide +kernel) (by decide +kernel) (by decide +kernel) (by decide +kernel) (by decide) (Nat.le_of_ble_eq_true rfl) dX4_copyFrom_42 ?_
  refine g_nm (fun M3 => ?_)
  refine g_aload_n h 1 dX4_copyFrom_45 rfl rfl ?_
  refine g_getR h (index := 21) (j := 3) (inS hk2 0 (by decide)) (C := RX4) (T := TX4) (N := 13) rfl n_X4_copyFrom_4 (by decide) rfl (by decide +kernel) dX4_copyFrom_46 ?_
  refine g_iconst h 0 dX4_copyFrom_49 (by decide) ?_
  refine g_aload_n h 0 dX4_copyFrom_50 rfl rfl ?_
  refine g_getR h (index := 21) (j := 3) (inS hk 0 (by decide)) (C := RX4) (T := TX4) (N := 13) rfl n_X4_copyFrom_4 (by decide) rfl (by decide +kernel) dX4_copyFrom_51 ?_
  refine g_iconst h 0 dX4_copyFrom_54 (by decide) ?_
  refine g_bipush h 30 dX4_copyFrom_55 (by decide) ?_
  refine g_copy h (x' := uM M3 k (cT (M3 k) 4 (M3 k2 4) 30)) (by rfl) (index := 52) (inS hk2 4 (by decide)) (inS hk 4 (by decide)) (by decide) (by decide) (by decide) (by decide +kernel) (by decide +kernel) (by decide +kernel) (by decide +kernel) (by decide) (Nat.le_of_ble_eq_true rfl) dX4_copyFrom_57 ?_
  refine g_nm (fun M4 => ?_)
  refine g_aload_n h 1 dX4_copyFrom_60 rfl rfl ?_
  refine g_getR h (index := 24) (j := 4) (inS hk2 0 (by decide)) (C := RX4) (T := TX4) (N := 13) rfl n_X4_copyFrom_4 (by decide) rfl (by decide +kernel) dX4_copyFrom_61 ?_
  refine g_iconst h 0 dX4_copyFrom_64 (by decide) ?_
  refine g_aload_n h 0 dX4_copyFrom_65 rfl rfl ?_
  refine g_getR h (index := 24) (j := 4) (inS hk 0 (by decide)) (C := RX4) (T := TX4) (N := 13) rfl n_X4_copyFrom_4 (by decide) rfl (by decide +kernel) dX4_copyFrom_66 ?_
  refine g_iconst h 0 dX4_copyFrom_69 (by decide) ?_
  refine g_bipush h 30 dX4_copyFrom_70 (by decide) ?_
  refine g_copy h (x' := uM M4 k (cT (M4 k) 5 (M4 k2 5) 30)) (by rfl) (index := 52) (inS hk2 5 (by decide)) (inS hk 5 (by decide)) (by decide) (by decide) (by decide) (by decide +kernel) (by decide +kernel) (by decide +kernel) (by decide +kernel) (by decide) (Nat.le_of_ble_eq_true rfl) dX4_copyFrom_72 ?_
  refine g_nm (fun M5 => ?_)
  refine g_aload_n h 1 dX4_copyFrom_75 rfl rfl ?_
  refine g_getR h (index := 27) (j := 5) (inS hk2 0 (by decide)) (C := RX4) (T := TX4) (N := 13) rfl n_X4_copyFrom_4 (by decide) rfl (by decide +kernel) dX4_copyFrom_76 ?_
  refine g_iconst h 0 dX4_copyFrom_79 (by decide) ?_
  refine g_aload_n h 0 dX4_copyFrom_80 rfl rfl ?_
  refine g_getR h (index := 27) (j := 5) (inS hk 0 (by decide)) (C := RX4) (T := TX4) (N := 13) rfl n_X4_copyFrom_4 (by decide) rfl (by decide +kernel) dX4_copyFrom_81 ?_
  refine g_iconst h 0 dX4_copyFrom_84 (by decide) ?_
  refine g_bipush h 30 dX4_copyFrom_85 (by decide) ?_
  refine g_copy h (x' := uM M5 k (cT (M5 k) 6 (M5 k2 6) 30)) (by rfl) (index := 52) (inS hk2 6 (by decide)) (inS hk 6 (by decide)) (by decide) (by decide) (by decide) (by decide +kernel) (by decide +kernel) (by decide +kernel) (by decide +kernel) (by decide) (Nat.le_of_ble_eq_true rfl) dX4_copyFrom_87 ?_
  refine g_nm (fun M6 => ?_)
  refine g_aload_n h 1 dX4_copyFrom_90 rfl rfl ?_
  refine g_getR h (index := 30) (j := 6) (inS hk2 0 (by decide)) (C := RX4) (T := TX4) (N := 13) rfl n_X4_copyFrom_4 (by decide) rfl (by decide +kernel) dX4_copyFrom_91 ?_
  refine g_iconst h 0 dX4_copyFrom_94 (by decide) ?_
  refine g_aload_n h 0 dX4_copyFrom_95 rfl rfl ?_
  refine g_getR h (index := 30) (j := 6) (inS hk 0 (by decide)) (C := RX4) (T := TX4) (N := 13) rfl n_X4_copyFrom_4 (by decide) rfl (by decide +kernel) dX4_copyFrom_96 ?_
  refine g_iconst h 0 dX4_copyFrom_99 (by decide) ?_
  refine g_bipush h 30 dX4_copyFrom_100 (by decide) ?_
  refine g_copy h (x' := uM M6 k (cT (M6 k) 7 (M6 k2 7) 30)) (by rfl) (index := 52) (inS hk2 7 (by decide)) (inS hk 7 (by decide)) (by decide) (by decide) (by decide) (by decide +kernel) (by decide +kernel) (by decide +kernel) (by decide +kernel) (by decide) (Nat.le_of_ble_eq_true rfl) dX4_copyFrom_102 ?_
  refine g_nm (fun M7 => ?_)
  refine g_aload_n h 1 dX4_copyFrom_105 rfl rfl ?_
  refine g_getR h (index := 33) (j := 7) (inS hk2 0 (by decide)) (C := RX4) (T := TX4) (N := 13) rfl n_X4_copyFrom_4 (by decide) rfl (by decide +kernel) dX4_copyFrom_106 ?_
  refine g_iconst h 0 dX4_copyFrom_109 (by decide) ?_
  refine g_aload_n h 0 dX4_copyFrom_110 rfl rfl ?_
  refine g_getR h (index := 33) (j := 7) (inS hk 0 (by decide)) (C := RX4) (T := TX4) (N := 13) rfl n_X4_copyFrom_4 (by decide) rfl (by decide +kernel) dX4_copyFrom_111 ?_
  refine g_iconst h 0 dX4_copyFrom_114 (by decide) ?_
  refine g_bipush h 30 dX4_copyFrom_115 (by decide) ?_
  refine g_copy h (x' := uM M7 k (cT (M7 k) 8 (M7 k2 8) 30)) (by rfl) (index := 52) (inS hk2 8 (by decide)) (inS hk 8 (by decide)) (by decide) (by decide) (by decide) (by decide +kernel) (by decide +kernel) (by decide +kernel) (by decide +kernel) (by decide) (Nat.le_of_ble_eq_true rfl) dX4_copyFrom_117 ?_
  refine g_nm (fun M8 => ?_)
  refine g_aload_n h 1 dX4_copyFrom_120 rfl rfl ?_
  refine g_getR h (index := 36) (j := 8) (inS hk2 0 (by decide)) (C := RX4) (T := TX4) (N := 13) rfl n_X4_copyFrom_4 (by decide) rfl (by decide +kernel) dX4_copyFrom_121 ?_
  refine g_iconst h 0 dX4_copyFrom_124 (by decide) ?_
  refine g_aload_n h 0 dX4_copyFrom_125 rfl rfl ?_
  refine g_getR h (index := 36) (j := 8) (inS hk 0 (by decide)) (C := RX4) (T := TX4) (N := 13) rfl n_X4_copyFrom_4 (by decide) rfl (by decide +kernel) dX4_copyFrom_126 ?_
  refine g_iconst h 0 dX4_copyFrom_129 (by decide) ?_
  refine g_bipush h 30 dX4_copyFrom_130 (by decide) ?_
  refine g_copy h (x' := uM M8 k (cT (M8 k) 9 (M8 k2 9) 30)) (by rfl) (index := 52) (inS hk2 9 (by decide)) (inS hk 9 (by decide)) (by decide) (by decide) (by decide) (by decide +kernel) (by decide +kernel) (by decide +kernel) (by decide +kernel) (by decide) (Nat.le_of_ble_eq_true rfl) dX4_copyFrom_132 ?_
  refine g_nm (fun M9 => ?_)
  refine g_aload_n h 1 dX4_copyFrom_135 rfl rfl ?_
  refine g_getR h (index := 39) (j := 9) (inS hk2 0 (by decide)) (C := RX4) (T := TX4) (N := 13) rfl n_X4_copyFrom_4 (by decide) rfl (by decide +kernel) dX4_copyFrom_136 ?_
  refine g_iconst h 0 dX4_copyFrom_139 (by decide) ?_
  refine g_aload_n h 0 dX4_copyFrom_140 rfl rfl ?_
  refine g_getR h (index := 39) (j := 9) (inS hk 0 (by decide)) (C := RX4) (T := TX4) (N := 13) rfl n_X4_copyFrom_4 (by decide) rfl (by decide +kernel) dX4_copyFrom_141 ?_
  refine g_iconst h 0 dX4_copyFrom_144 (by decide) ?_
  refine g_bipush h 30 dX4_copyFrom_145 (by decide) ?_
  refine g_copy h (x' := uM M9 k (cT (M9 k) 10 (M9 k2 10) 30)) (by rfl) (index := 52) (inS hk2 10 (by decide)) (inS hk 10 (by decide)) (by decide) (by decide) (by decide) (by decide +kernel) (by decide +kernel) (by decide +kernel) (by decide +kernel) (by decide) (Nat.le_of_ble_eq_true rfl) dX4_copyFrom_147 ?_
  refine g_nm (fun M10 => ?_)
  refine g_aload_n h 0 dX4_copyFrom_150 rfl rfl ?_
  refine g_aload_n h 1 dX4_copyFrom_151 rfl rfl ?_
  refine g_getI h (v := M10 k2 0 10) rfl (index := 42) (j := 10) (inS hk2 0 (by decide)) (C := RX4) (T := TX4) (N := 13) rfl n_X4_copyFrom_4 (by decide) rfl (by decide +kernel) dX4_copyFrom_152 ?_
  refine g_ni (fun v11 => ?_)
  refine g_putI h (x' := wM M10 k 0 10 v11) rfl (index := 42) (j := 10) (inS hk 0 (by decide)) (C := RX4) (T := TX4) (N := 13) rfl n_X4_copyFrom_4 tyX4_ok nmX4 (by decide) rfl (by decide +kernel) rfl (ty := .int) (by decide +kernel) rfl rfl dX4_copyFrom_155 ?_
  refine g_nm (fun M12 => ?_)
  refine g_aload_n h 0 dX4_copyFrom_158 rfl rfl ?_
  refine g_aload_n h 1 dX4_copyFrom_159 rfl rfl ?_
  refine g_getI h (v := M12 k2 0 11) rfl (index := 46) (j := 11) (inS hk2 0 (by decide)) (C := RX4) (T := TX4) (N := 13) rfl n_X4_copyFrom_4 (by decide) rfl (by decide +kernel) dX4_copyFrom_160 ?_
  refine g_ni (fun v13 => ?_)
  refine g_putI h (x' := wM M12 k 0 11 v13) rfl (index := 46) (j := 11) (inS hk 0 (by decide)) (C := RX4) (T := TX4) (N := 13) rfl n_X4_copyFrom_4 tyX4_ok nmX4 (by decide) rfl (by decide +kernel) rfl (ty := .int) (by decide +kernel) rfl rfl dX4_copyFrom_163 ?_
  refine g_nm (fun M14 => ?_)
  refine g_aload_n h 0 dX4_copyFrom_166 rfl rfl ?_
  refine g_aload_n h 1 dX4_copyFrom_167 rfl rfl ?_
  refine g_getI h (v := M14 k2 0 12) rfl (index := 49) (j := 12) (inS hk2 0 (by decide)) (C := RX4) (T := TX4) (N := 13) rfl n_X4_copyFrom_4 (by decide) rfl (by decide +kernel) dX4_copyFrom_168 ?_
  refine g_ni (fun v15 => ?_)
  refine g_putI h (x' := wM M14 k 0 12 v15) rfl (index := 49) (j := 12) (inS hk 0 (by decide)) (C := RX4) (T := TX4) (N := 13) rfl n_X4_copyFrom_4 tyX4_ok nmX4 (by decide) rfl (by decide +kernel) rfl (ty := .int) (by decide +kernel) rfl rfl dX4_copyFrom_171 ?_
  refine g_nm (fun M16 => ?_)
  exact g_vret hR dX4_copyFrom_174
theorem n_X1_bringBack_1 : ∀ w ∈ wsX10, w ∈ wsX1_bringBack := by decide +kernel
set_option maxHeartbeats 4000000 in
set_option maxRecDepth 100000 in
theorem c_X1_bringBack (l : Launch) (ω : Wd)  (M : Mm) {r : Int32} {M' : Mm} (hm : m_X1_bringBack M = some (r, M')) : MI l yX1_bringBack wsX1_bringBack ⟨2, 0, 0, 61⟩ ω LC [.ref (th ω 12 0), .ref (th ω 1 0)] M r M' := by
  refine met_i (cc := cX1_bringBack) (maxL := 2) (ty := .int) (by decide +kernel) rfl (Nat.le_of_ble_eq_true rfl) LC_nd ?_
  intro Γ h hR ht
  suffices K : Gq 0 Γ ω LC eI 0 [(0, .ref (th ω 12 0)), (1, .ref (th ω 1 0))] [] M (m_X1_bringBack M) from K (r, M') hm ht (c0 Γ)
  unfold m_X1_bringBack
  refine g_aload_n h 0 dX1_bringBack_0 rfl rfl ?_
  refine g_getI h (v := M 12 0 1) rfl (index := 17) (j := 1) iC_12_0 (C := RX1) (T := TX1) (N := 2) rfl n_X1_bringBack_1 (by decide) rfl (by decide +kernel) dX1_bringBack_1 ?_
  refine g_ni (fun v1 => ?_)
  refine g_iconst h 1 dX1_bringBack_4 (by decide) ?_
  refine g_icmp_ge h 11 dX1_bringBack_5 (by decide) (fun hc2 => ?_) (fun hc2 => ?_)
  · skip
    refine g_aload_n h 0 dX1_bringBack_11 rfl rfl ?_
    refine g_dup h dX1_bringBack_12 rfl ?_
    refine g_getI h (v := M 12 0 1) rfl (index := 17) (j := 1) iC_12_0 (C := RX1) (T := TX1) (N := 2) rfl n_X1_bringBack_1 (by decide) rfl (by decide +kernel) dX1_bringBack_13 ?_
    refine g_ni (fun v3 => ?_)
    refine g_iconst h 1 dX1_bringBack_16 (by decide) ?_
    refine g_isub h dX1_bringBack_17 ?_
    refine g_putI h (x' := wM M 12 0 1 (v3 - 1)) rfl (index := 17) (j := 1) iC_12_0 (C := RX1) (T := TX1) (N := 2) rfl n_X1_bringBack_1 tyX1_ok nmX1 (by decide) rfl (by decide +kernel) rfl (ty := .int) (by decide +kernel) rfl rfl dX1_bringBack_18 ?_
    refine g_nm (fun M4 => ?_)
    refine g_aload_n h 1 dX1_bringBack_21 rfl rfl ?_
    refine g_aload_n h 0 dX1_bringBack_22 rfl rfl ?_
    refine g_getR h (index := 11) (j := 0) iC_12_0 (C := RX1) (T := TX1) (N := 2) rfl n_X1_bringBack_1 (by decide) rfl (by decide +kernel) dX1_bringBack_23 ?_
    refine g_aload_n h 0 dX1_bringBack_26 rfl rfl ?_
    refine g_getI h (v := M4 12 0 1) rfl (index := 17) (j := 1) iC_12_0 (C := RX1) (T := TX1) (N := 2) rfl n_X1_bringBack_1 (by decide) rfl (by decide +kernel) dX1_bringBack_27 ?_
    refine g_ni (fun v5 => ?_)
    refine g_aald h (v := M4 12 1 v5.toNatClampNeg) rfl iC_12_1 dX1_bringBack_30 ?_
    refine g_nr (fun w6 => ?_)
    refine g_gd (fun hb9 => ?_)
    refine g_callV h (As := [.ref (th ω w6.toNatClampNeg 0)]) (fun t => t) (fun r t hG => c_X4_copyFrom l ω 1 w6.toNatClampNeg kS1 (sb_k hb9) _ hG) (inS kS1 0 (by decide)) (C := RX4) (T := TX4) (N := 13) rfl 1 rfl gX1_bringBack_X4_copyFrom rfl rfl rfl (by decide +kernel) (by decide) (st0 := _) rfl (Nat.le_of_ble_eq_true rfl) dX1_bringBack_31 (fun r7 M8 => ?_)
    refine g_aload_n h 0 dX1_bringBack_34 rfl rfl ?_
    refine g_getI h (v := M8 12 0 1) rfl (index := 17) (j := 1) iC_12_0 (C := RX1) (T := TX1) (N := 2) rfl n_X1_bringBack_1 (by decide) rfl (by decide +kernel) dX1_bringBack_35 ?_
    refine g_ni (fun v10 => ?_)
    exact g_iret hR rfl dX1_bringBack_38
  · skip
    refine g_bipush h (-5) dX1_bringBack_8 (by decide) ?_
    exact g_iret hR rfl dX1_bringBack_10
theorem n_X1_dropOldest_1 : ∀ w ∈ wsX10, w ∈ wsX1_dropOldest := by decide +kernel
set_option maxHeartbeats 4000000 in
set_option maxRecDepth 100000 in
theorem b_X1_dropOldest_9 {Γ : Cx} {l : Launch} {ω : Wd} {M0 : Mm}  (h : CxOk Γ l ⟨0, 0, 0, 0⟩ 3 ω LC cX1_dropOldest yX1_dropOldest.cls wsX1_dropOldest) (hR : RetV Γ ω LC cX1_dropOldest) : ∀ (n : Nat) (b1 : Int32) (b2 : Int32) (T : Tm), Gq 0 Γ ω LC (uM M0 12) 9 [(0, .ref (th ω 12 0)), (1, .ref (th ω b1.toNatClampNeg 0)), (2, .int b2)] [] T (m_X1_dropOldest_9 n b1 b2 T) := by
  intro n
  induction n with
  | zero =>
    intro b1 b2 T
    rw [m_X1_dropOldest_9.eq_1]
    exact g_none
  | succ n ih =>
    intro b1 b2 T
    rw [m_X1_dropOldest_9.eq_2]
    refine g_iload_n h 2 dX1_dropOldest_9 rfl rfl ?_
    refine g_iconst h 5 dX1_dropOldest_10 (by decide) ?_
    refine g_icmp_ge h 34 dX1_dropOldest_11 (by decide) (fun hc1 => ?_) (fun hc1 => ?_)
    · skip
      refine g_aload_n h 0 dX1_dropOldest_34 rfl rfl ?_
      refine g_getR h (index := 11) (j := 0) iC_12_0 (C := RX1) (T := TX1) (N := 2) rfl n_X1_dropOldest_1 (by decide) rfl (by decide +kernel) dX1_dropOldest_35 ?_
      refine g_iconst h 4 dX1_dropOldest_38 (by decide) ?_
      refine g_aload_n h 1 dX1_dropOldest_39 rfl rfl ?_
      refine g_gd (fun hb3 => ?_)
      refine g_aast h (x' := wT T 1 ((4 : Int32).toNatClampNeg) b1) (wM_uM M0 12 _ _ _ _).symm iC_12_1 (inS (sb_k hb3) 0 (by decide)) dX1_dropOldest_40 ?_
      refine g_nm (fun T2 => ?_)
      refine g_aload_n h 0 dX1_dropOldest_41 rfl rfl ?_
      refine g_dup h dX1_dropOldest_42 rfl ?_
      refine g_getI h (v := T2 0 1) (uMr M0 12 _ _ _) (index := 17) (j := 1) iC_12_0 (C := RX1) (T := TX1) (N := 2) rfl n_X1_dropOldest_1 (by decide) rfl (by decide +kernel) dX1_dropOldest_43 ?_
      refine g_ni (fun v4 => ?_)
      refine g_iconst h 1 dX1_dropOldest_46 (by decide) ?_
      refine g_isub h dX1_dropOldest_47 ?_
      refine g_putI h (x' := wT T2 0 1 (v4 - 1)) (wM_uM M0 12 _ _ _ _).symm (index := 17) (j := 1) iC_12_0 (C := RX1) (T := TX1) (N := 2) rfl n_X1_dropOldest_1 tyX1_ok nmX1 (by decide) rfl (by decide +kernel) rfl (ty := .int) (by decide +kernel) rfl rfl dX1_dropOldest_48 ?_
      refine g_nm (fun T5 => ?_)
      exact g_vret hR dX1_dropOldest_51
    · skip
      refine g_aload_n h 0 dX1_dropOldest_14 rfl rfl ?_
      refine g_getR h (index := 11) (j := 0) iC_12_0 (C := RX1) (T := TX1) (N := 2) rfl n_X1_dropOldest_1 (by decide) rfl (by decide +kernel) dX1_dropOldest_15 ?_
      refine g_iload_n h 2 dX1_dropOldest_18 rfl rfl ?_
      refine g_iconst h 1 dX1_dropOldest_19 (by decide) ?_
      refine g_isub h dX1_dropOldest_20 ?_
      refine g_aload_n h 0 dX1_dropOldest_21 rfl rfl ?_
      refine g_getR h (index := 11) (j := 0) iC_12_0 (C := RX1) (T := TX1) (N := 2) rfl n_X1_dropOldest_1 (by decide) rfl (by decide +kernel) dX1_dropOldest_22 ?_
      refine g_iload_n h 2 dX1_dropOldest_25 rfl rfl ?_
      refine g_aald h (v := T 1 b2.toNatClampNeg) (uMr M0 12 _ _ _) iC_12_1 dX1_dropOldest_26 ?_
      refine g_nr (fun w6 => ?_)
      refine g_gd (fun hb8 => ?_)
      refine g_aast h (x' := wT T 1 ((b2 - 1).toNatClampNeg) w6) (wM_uM M0 12 _ _ _ _).symm iC_12_1 (inS (sb_k hb8) 0 (by decide)) dX1_dropOldest_27 ?_
      refine g_nm (fun T7 => ?_)
      refine g_iinc h (b2 + 1) (lv' := [(2, .int (b2 + 1)), (0, .ref (th ω 12 0)), (1, .ref (th ω b1.toNatClampNeg 0))]) dX1_dropOldest_28 2 rfl (congrArg (fun z => b2 + z) (by decide)) (by decide) [0, 1, 2] rfl ?_
      refine g_goto h (tgt := 9) dX1_dropOldest_31 (by decide) ?_
      refine g_sub (lv' := [(0, .ref (th ω 12 0)), (1, .ref (th ω b1.toNatClampNeg 0)), (2, .int (b2 + 1))]) [1, 2, 0] rfl ?_
      exact ih _ _ _
set_option maxHeartbeats 4000000 in
set_option maxRecDepth 100000 in
theorem c_X1_dropOldest (l : Launch) (ω : Wd)  (M0 : Mm) (T : Tm) {r : Int32} {T' : Tm} (hm : m_X1_dropOldest T = some (r, T')) : MV l yX1_dropOldest wsX1_dropOldest ⟨0, 0, 0, 0⟩ ω LC [.ref (th ω 12 0)] (uM M0 12 T) (uM M0 12 T') := by
  refine met_v (cc := cX1_dropOldest) (maxL := 3) (r := r) (by decide +kernel) rfl (Nat.le_of_ble_eq_true rfl) LC_nd ?_
  intro Γ h hR ht
  suffices K : Gq 0 Γ ω LC (uM M0 12) 0 [(0, .ref (th ω 12 0))] [] T (m_X1_dropOldest T) from K (r, T') hm ht (c0 Γ)
  unfold m_X1_dropOldest
  refine g_aload_n h 0 dX1_dropOldest_0 rfl rfl ?_
  refine g_getR h (index := 11) (j := 0) iC_12_0 (C := RX1) (T := TX1) (N := 2) rfl n_X1_dropOldest_1 (by decide) rfl (by decide +kernel) dX1_dropOldest_1 ?_
  refine g_iconst h 0 dX1_dropOldest_4 (by decide) ?_
  refine g_aald h (v := T 1 ((0 : Int32).toNatClampNeg)) (uMr M0 12 _ _ _) iC_12_1 dX1_dropOldest_5 ?_
  refine g_nr (fun w1 => ?_)
  refine g_astore_n h rfl (lv' := [(1, .ref (th ω w1.toNatClampNeg 0)), (0, .ref (th ω 12 0))]) dX1_dropOldest_6 (by decide) [0, 1] rfl ?_
  refine g_iconst h 1 dX1_dropOldest_7 (by decide) ?_
  refine g_istore_n h rfl (lv' := [(2, .int 1), (1, .ref (th ω w1.toNatClampNeg 0)), (0, .ref (th ω 12 0))]) dX1_dropOldest_8 (by decide) [0, 1, 2] rfl ?_
  refine g_sub (lv' := [(0, .ref (th ω 12 0)), (1, .ref (th ω w1.toNatClampNeg 0)), (2, .int 1)]) [2, 1, 0] rfl ?_
  exact b_X1_dropOldest_9 h hR fu _ _ _
theorem n_X1_keep_1 : ∀ w ∈ wsX10, w ∈ wsX1_keep := by decide +kernel
set_option maxHeartbeats 4000000 in
set_option maxRecDepth 100000 in
theorem b_X1_keep_12 {Γ : Cx} {l : Launch} {ω : Wd}  (h : CxOk Γ l ⟨2, 0, 0, 61⟩ 2 ω LC cX1_keep yX1_keep.cls wsX1_keep) (hR : RetV Γ ω LC cX1_keep) : ∀ (M : Mm), Gq 0 Γ ω LC eI 12 [(0, .ref (th ω 12 0)), (1, .ref (th ω 1 0))] [] M (m_X1_keep_12 M) := by
  intro M
  unfold m_X1_keep_12
  refine g_aload_n h 0 dX1_keep_12 rfl rfl ?_
  refine g_getR h (index := 11) (j := 0) iC_12_0 (C := RX1) (T := TX1) (N := 2) rfl n_X1_keep_1 (by decide) rfl (by decide +kernel) dX1_keep_13 ?_
  refine g_aload_n h 0 dX1_keep_16 rfl rfl ?_
  refine g_getI h (v := M 12 0 1) rfl (index := 17) (j := 1) iC_12_0 (C := RX1) (T := TX1) (N := 2) rfl n_X1_keep_1 (by decide) rfl (by decide +kernel) dX1_keep_17 ?_
  refine g_ni (fun v1 => ?_)
  refine g_aald h (v := M 12 1 v1.toNatClampNeg) rfl iC_12_1 dX1_keep_20 ?_
  refine g_nr (fun w2 => ?_)
  refine g_aload_n h 1 dX1_keep_21 rfl rfl ?_
  refine g_gd (fun hb5 => ?_)
  refine g_callV h (As := [.ref (th ω 1 0)]) (fun t => t) (fun r t hG => c_X4_copyFrom l ω w2.toNatClampNeg 1 (sb_k hb5) kS1 _ hG) (inS (sb_k hb5) 0 (by decide)) (C := RX4) (T := TX4) (N := 13) rfl 1 rfl gX1_keep_X4_copyFrom rfl rfl rfl (by decide +kernel) (by decide) (st0 := _) rfl (Nat.le_of_ble_eq_true rfl) dX1_keep_22 (fun r3 M4 => ?_)
  refine g_aload_n h 0 dX1_keep_25 rfl rfl ?_
  refine g_dup h dX1_keep_26 rfl ?_
  refine g_getI h (v := M4 12 0 1) rfl (index := 17) (j := 1) iC_12_0 (C := RX1) (T := TX1) (N := 2) rfl n_X1_keep_1 (by decide) rfl (by decide +kernel) dX1_keep_27 ?_
  refine g_ni (fun v6 => ?_)
  refine g_iconst h 1 dX1_keep_30 (by decide) ?_
  refine g_iadd h dX1_keep_31 ?_
  refine g_putI h (x' := wM M4 12 0 1 (v6 + 1)) rfl (index := 17) (j := 1) iC_12_0 (C := RX1) (T := TX1) (N := 2) rfl n_X1_keep_1 tyX1_ok nmX1 (by decide) rfl (by decide +kernel) rfl (ty := .int) (by decide +kernel) rfl rfl dX1_keep_32 ?_
  refine g_nm (fun M7 => ?_)
  exact g_vret hR dX1_keep_35
set_option maxHeartbeats 4000000 in
set_option maxRecDepth 100000 in
theorem c_X1_keep (l : Launch) (ω : Wd)  (M : Mm) {r : Int32} {M' : Mm} (hm : m_X1_keep M = some (r, M')) : MV l yX1_keep wsX1_keep ⟨2, 0, 0, 61⟩ ω LC [.ref (th ω 12 0), .ref (th ω 1 0)] M M' := by
  refine met_v (cc := cX1_keep) (maxL := 2) (r := r) (by decide +kernel) rfl (Nat.le_of_ble_eq_true rfl) LC_nd ?_
  intro Γ h hR ht
  suffices K : Gq 0 Γ ω LC eI 0 [(0, .ref (th ω 12 0)), (1, .ref (th ω 1 0))] [] M (m_X1_keep M) from K (r, M') hm ht (c0 Γ)
  unfold m_X1_keep
  refine g_aload_n h 0 dX1_keep_0 rfl rfl ?_
  refine g_getI h (v := M 12 0 1) rfl (index := 17) (j := 1) iC_12_0 (C := RX1) (T := TX1) (N := 2) rfl n_X1_keep_1 (by decide) rfl (by decide +kernel) dX1_keep_1 ?_
  refine g_ni (fun v1 => ?_)
  refine g_iconst h 5 dX1_keep_4 (by decide) ?_
  refine g_icmp_lt h 12 dX1_keep_5 (by decide) (fun hc2 => ?_) (fun hc2 => ?_)
  · skip
    exact b_X1_keep_12 h hR _
  · skip
    refine g_aload_n h 0 dX1_keep_8 rfl rfl ?_
    refine g_callV h (As := []) (fun t => uM M 12 t) (fun r t hG => MV_self (c_X1_dropOldest l ω M _ hG)) iC_12_0 (C := RX1) (T := TX1) (N := 2) rfl 0 rfl gX1_keep_X1_dropOldest rfl rfl rfl (by decide +kernel) (by decide) (st0 := _) rfl (Nat.le_of_ble_eq_true rfl) dX1_keep_9 (fun r3 M4 => ?_)
    refine g_nm (fun M5 => ?_)
    exact b_X1_keep_12 h hR _
theorem n_X2_insert_2 : ∀ w ∈ wsX20, w ∈ wsX2_insert := by decide +kernel
theorem n_X2_insert_4 : ∀ w ∈ wsX40, w ∈ wsX2_insert := by decide +kernel
set_option maxHeartbeats 4000000 in
set_option maxRecDepth 100000 in
theorem b_X2_insert_68 {Γ : Cx} {l : Launch} {ω : Wd}  (h : CxOk Γ l ⟨0, 0, 0, 0⟩ 5 ω LC cX2_insert yX2_insert.cls wsX2_insert) (hR : RetV Γ ω LC cX2_insert) : ∀ (b1 : Int32) (b4 : Int32) (M : Mm), Gq 0 Γ ω LC eI 68 [(0, .ref (th ω 11 0)), (1, .int b1), (4, .int b4)] [] M (m_X2_insert_68 b1 b4 M) := by
  intro b1 b4 M
  unfold m_X2_insert_68
  refine g_aload_n h 0 dX2_insert_68 rfl rfl ?_
  refine g_getR h (index := 9) (j := 0) iC_11_0 (C := RX2) (T := TX2) (N := 2) rfl n_X2_insert_2 (by decide) rfl (by decide +kernel) dX2_insert_69 ?_
  refine g_iload h 2 dX2_insert_72 rfl ?_
  refine g_iload_n h 1 dX2_insert_74 rfl rfl ?_
  refine g_iast h (x' := wM M 11 1 b4.toNatClampNeg b1) rfl iC_11_1 dX2_insert_75 ?_
  refine g_nm (fun M1 => ?_)
  refine g_aload_n h 0 dX2_insert_76 rfl rfl ?_
  refine g_dup h dX2_insert_77 rfl ?_
  refine g_getI h (v := M1 11 0 1) rfl (index := 15) (j := 1) iC_11_0 (C := RX2) (T := TX2) (N := 2) rfl n_X2_insert_2 (by decide) rfl (by decide +kernel) dX2_insert_78 ?_
  refine g_ni (fun v2 => ?_)
  refine g_iconst h 1 dX2_insert_81 (by decide) ?_
  refine g_iadd h dX2_insert_82 ?_
  refine g_putI h (x' := wM M1 11 0 1 (v2 + 1)) rfl (index := 15) (j := 1) iC_11_0 (C := RX2) (T := TX2) (N := 2) rfl n_X2_insert_2 tyX2_ok nmX2 (by decide) rfl (by decide +kernel) rfl (ty := .int) (by decide +kernel) rfl rfl dX2_insert_83 ?_
  refine g_nm (fun M3 => ?_)
  exact g_vret hR dX2_insert_86
set_option maxHeartbeats 4000000 in
set_option maxRecDepth 100000 in
theorem b_X2_insert_18 {Γ : Cx} {l : Launch} {ω : Wd}  (h : CxOk Γ l ⟨0, 0, 0, 0⟩ 5 ω LC cX2_insert yX2_insert.cls wsX2_insert) (hR : RetV Γ ω LC cX2_insert) : ∀ (n : Nat) (b1 : Int32) (b3 : Int32) (b4 : Int32) (M : Mm), Gq 0 Γ ω LC eI 18 [(0, .ref (th ω 11 0)), (1, .int b1), (2, .ref (th ω 1 0)), (3, .int b3), (4, .int b4)] [] M (m_X2_insert_18 n b1 b3 b4 M) := by
  intro n
  induction n with
  | zero =>
    intro b1 b3 b4 M
    rw [m_X2_insert_18.eq_1]
    exact g_none
  | succ n ih =>
    intro b1 b3 b4 M
    rw [m_X2_insert_18.eq_2]
    refine g_iload h 4 dX2_insert_18 rfl ?_
    refine g_if_le h 68 dX2_insert_20 (by decide) (fun hc1 => ?_) (fun hc1 => ?_)
    · skip
      refine g_sub (lv' := [(0, .ref (th ω 11 0)), (1, .int b1), (4, .int b4)]) [0, 1, 4] rfl ?_
      exact b_X2_insert_68 h hR _ _ _
    · skip
      refine g_aload_n h 2 dX2_insert_23 rfl rfl ?_
      refine g_getR h (index := 29) (j := 1) (inS kS1 0 (by decide)) (C := RX4) (T := TX4) (N := 13) rfl n_X2_insert_4 (by decide) rfl (by decide +kernel) dX2_insert_24 ?_
      refine g_aload_n h 2 dX2_insert_27 rfl rfl ?_
      refine g_getR h (index := 32) (j := 2) (inS kS1 0 (by decide)) (C := RX4) (T := TX4) (N := 13) rfl n_X2_insert_4 (by decide) rfl (by decide +kernel) dX2_insert_28 ?_
      refine g_aload_n h 0 dX2_insert_31 rfl rfl ?_
      refine g_getR h (index := 9) (j := 0) iC_11_0 (C := RX2) (T := TX2) (N := 2) rfl n_X2_insert_2 (by decide) rfl (by decide +kernel) dX2_insert_32 ?_
      refine g_iload h 4 dX2_insert_35 rfl ?_
      refine g_iconst h 1 dX2_insert_37 (by decide) ?_
      refine g_isub h dX2_insert_38 ?_
      refine g_iald h (v := M 11 1 ((b4 - 1).toNatClampNeg)) rfl iC_11_1 dX2_insert_39 ?_
      refine g_ni (fun v2 => ?_)
      refine g_iald h (v := M 1 3 v2.toNatClampNeg) rfl (inS kS1 3 (by decide)) dX2_insert_40 ?_
      refine g_ni (fun v3 => ?_)
      refine g_iald h (v := M 1 2 v3.toNatClampNeg) rfl (inS kS1 2 (by decide)) dX2_insert_41 ?_
      refine g_ni (fun v4 => ?_)
      refine g_iload_n h 3 dX2_insert_42 rfl rfl ?_
      refine g_icmp_le h 68 dX2_insert_43 (by decide) (fun hc5 => ?_) (fun hc5 => ?_)
      · skip
        refine g_sub (lv' := [(0, .ref (th ω 11 0)), (1, .int b1), (4, .int b4)]) [0, 1, 4] rfl ?_
        exact b_X2_insert_68 h hR _ _ _
      · skip
        refine g_aload_n h 0 dX2_insert_46 rfl rfl ?_
        refine g_getR h (index := 9) (j := 0) iC_11_0 (C := RX2) (T := TX2) (N := 2) rfl n_X2_insert_2 (by decide) rfl (by decide +kernel) dX2_insert_47 ?_
        refine g_iload h 4 dX2_insert_50 rfl ?_
        refine g_aload_n h 0 dX2_insert_52 rfl rfl ?_
        refine g_getR h (index := 9) (j := 0) iC_11_0 (C := RX2) (T := TX2) (N := 2) rfl n_X2_insert_2 (by decide) rfl (by decide +kernel) dX2_insert_53 ?_
        refine g_iload h 4 dX2_insert_56 rfl ?_
        refine g_iconst h 1 dX2_insert_58 (by decide) ?_
        refine g_isub h dX2_insert_59 ?_
        refine g_iald h (v := M 11 1 ((b4 - 1).toNatClampNeg)) rfl iC_11_1 dX2_insert_60 ?_
        refine g_ni (fun v6 => ?_)
        refine g_iast h (x' := wM M 11 1 b4.toNatClampNeg v6) rfl iC_11_1 dX2_insert_61 ?_
        refine g_nm (fun M7 => ?_)
        refine g_iinc h (b4 + (-1)) (lv' := [(4, .int (b4 + (-1))), (0, .ref (th ω 11 0)), (1, .int b1), (2, .ref (th ω 1 0)), (3, .int b3)]) dX2_insert_62 4 rfl (congrArg (fun z => b4 + z) (by decide)) (by decide) [0, 1, 2, 3, 4] rfl ?_
        refine g_goto h (tgt := 18) dX2_insert_65 (by decide) ?_
        refine g_sub (lv' := [(0, .ref (th ω 11 0)), (1, .int b1), (2, .ref (th ω 1 0)), (3, .int b3), (4, .int (b4 + (-1)))]) [1, 2, 3, 4, 0] rfl ?_
        exact ih _ _ _ _
set_option maxHeartbeats 4000000 in
set_option maxRecDepth 100000 in
theorem c_X2_insert (l : Launch) (ω : Wd)  (M : Mm) (a1 : Int32) {r : Int32} {M' : Mm} (hm : m_X2_insert a1 M = some (r, M')) : MV l yX2_insert wsX2_insert ⟨0, 0, 0, 0⟩ ω LC [.ref (th ω 11 0), .int a1, .ref (th ω 1 0)] M M' := by
  refine met_v (cc := cX2_insert) (maxL := 5) (r := r) (by decide +kernel) rfl (Nat.le_of_ble_eq_true rfl) LC_nd ?_
  intro Γ h hR ht
  suffices K : Gq 0 Γ ω LC eI 0 [(0, .ref (th ω 11 0)), (1, .int a1), (2, .ref (th ω 1 0))] [] M (m_X2_insert a1 M) from K (r, M') hm ht (c0 Γ)
  unfold m_X2_insert
  refine g_aload_n h 2 dX2_insert_0 rfl rfl ?_
  refine g_getR h (index := 29) (j := 1) (inS kS1 0 (by decide)) (C := RX4) (T := TX4) (N := 13) rfl n_X2_insert_4 (by decide) rfl (by decide +kernel) dX2_insert_1 ?_
  refine g_aload_n h 2 dX2_insert_4 rfl rfl ?_
  refine g_getR h (index := 32) (j := 2) (inS kS1 0 (by decide)) (C := RX4) (T := TX4) (N := 13) rfl n_X2_insert_4 (by decide) rfl (by decide +kernel) dX2_insert_5 ?_
  refine g_iload_n h 1 dX2_insert_8 rfl rfl ?_
  refine g_iald h (v := M 1 3 a1.toNatClampNeg) rfl (inS kS1 3 (by decide)) dX2_insert_9 ?_
  refine g_ni (fun v1 => ?_)
  refine g_iald h (v := M 1 2 v1.toNatClampNeg) rfl (inS kS1 2 (by decide)) dX2_insert_10 ?_
  refine g_ni (fun v2 => ?_)
  refine g_istore_n h rfl (lv' := [(3, .int v2), (0, .ref (th ω 11 0)), (1, .int a1), (2, .ref (th ω 1 0))]) dX2_insert_11 (by decide) [0, 1, 2, 3] rfl ?_
  refine g_aload_n h 1 dX2_insert_12 rfl rfl ?_
  refine g_getI h (v := M 11 0 1) rfl (index := 15) (j := 1) iC_11_0 (C := RX2) (T := TX2) (N := 2) rfl n_X2_insert_2 (by decide) rfl (by decide +kernel) dX2_insert_13 ?_
  refine g_ni (fun v3 => ?_)
  refine g_istore h (lv' := [(4, .int v3), (3, .int v2), (0, .ref (th ω 11 0)), (1, .int a1), (2, .ref (th ω 1 0))]) dX2_insert_16 (by decide) [0, 1, 2, 3, 4] rfl ?_
  refine g_sub (lv' := [(0, .ref (th ω 11 0)), (1, .int a1), (2, .ref (th ω 1 0)), (3, .int v2), (4, .int v3)]) [2, 3, 4, 1, 0] rfl ?_
  exact b_X2_insert_18 h hR fu _ _ _ _
theorem n_X4_conkerToSend_4 : ∀ w ∈ wsX40, w ∈ wsX4_conkerToSend := by decide +kernel
set_option maxHeartbeats 4000000 in
set_option maxRecDepth 100000 in
theorem b_X4_conkerToSend_53 {Γ : Cx} {l : Launch} {ω : Wd} {M0 : Mm} {k : Nat} (hk : kS k) (h : CxOk Γ l ⟨0, 0, 0, 0⟩ 4 ω LC cX4_conkerToSend yX4_conkerToSend.cls wsX4_conkerToSend) (hR : RetI Γ ω LC cX4_conkerToSend .int) (κ5 : Int32 → Int32 → Int32 → Tm → Option (Int32 × Tm)) (hκ5 : ∀ (b1 : Int32) (b2 : Int32) (b3 : Int32) (T : Tm), Gq 0 Γ ω LC (uM M0 k) 5 [(0, .ref (th ω k 0)), (1, .int b1), (2, .int b2), (3, .int b3)] [] T (κ5 b1 b2 b3 T)) : ∀ (b1 : Int32) (b2 : Int32) (b3 : Int32) (T : Tm), Gq 0 Γ ω LC (uM M0 k) 53 [(0, .ref (th ω k 0)), (1, .int b1), (2, .int b2), (3, .int b3)] [] T (m_X4_conkerToSend_53 κ5 b1 b2 b3 T) := by
  intro b1 b2 b3 T
  unfold m_X4_conkerToSend_53
  refine g_iinc h (b3 + 1) (lv' := [(3, .int (b3 + 1)), (0, .ref (th ω k 0)), (1, .int b1), (2, .int b2)]) dX4_conkerToSend_53 3 rfl (congrArg (fun z => b3 + z) (by decide)) (by decide) [0, 1, 2, 3] rfl ?_
  refine g_goto h (tgt := 5) dX4_conkerToSend_56 (by decide) ?_
  refine g_sub (lv' := [(0, .ref (th ω k 0)), (1, .int b1), (2, .int b2), (3, .int (b3 + 1))]) [1, 2, 3, 0] rfl ?_
  exact hκ5 _ _ _ _
set_option maxHeartbeats 4000000 in
set_option maxRecDepth 100000 in
theorem b_X4_conkerToSend_51 {Γ : Cx} {l : Launch} {ω : Wd} {M0 : Mm} {k : Nat} (hk : kS k) (h : CxOk Γ l ⟨0, 0, 0, 0⟩ 4 ω LC cX4_conkerToSend yX4_conkerToSend.cls wsX4_conkerToSend) (hR : RetI Γ ω LC cX4_conkerToSend .int) (κ5 : Int32 → Int32 → Int32 → Tm → Option (Int32 × Tm)) (hκ5 : ∀ (b1 : Int32) (b2 : Int32) (b3 : Int32) (T : Tm), Gq 0 Γ ω LC (uM M0 k) 5 [(0, .ref (th ω k 0)), (1, .int b1), (2, .int b2), (3, .int b3)] [] T (κ5 b1 b2 b3 T)) : ∀ (b1 : Int32) (b3 : Int32) (T : Tm), Gq 0 Γ ω LC (uM M0 k) 51 [(0, .ref (th ω k 0)), (1, .int b1), (3, .int b3)] [] T (m_X4_conkerToSend_51 κ5 b1 b3 T) := by
  intro b1 b3 T
  unfold m_X4_conkerToSend_51
  refine g_iload_n h 2 dX4_conkerToSend_51 rfl rfl ?_
  refine g_istore_n h rfl (lv' := [(2, .int b3), (0, .ref (th ω k 0)), (1, .int b1), (3, .int b3)]) dX4_conkerToSend_52 (by decide) [0, 1, 2, 3] rfl ?_
  refine g_sub (lv' := [(0, .ref (th ω k 0)), (1, .int b1), (2, .int b3), (3, .int b3)]) [1, 2, 0, 3] rfl ?_
  exact b_X4_conkerToSend_53 hk h hR _ hκ5 _ _ _ _
set_option maxHeartbeats 4000000 in
set_option maxRecDepth 100000 in
theorem b_X4_conkerToSend_5 {Γ : Cx} {l : Launch} {ω : Wd} {M0 : Mm} {k : Nat} (hk : kS k) (h : CxOk Γ l ⟨0, 0, 0, 0⟩ 4 ω LC cX4_conkerToSend yX4_conkerToSend.cls wsX4_conkerToSend) (hR : RetI Γ ω LC cX4_conkerToSend .int) : ∀ (n : Nat) (b1 : Int32) (b2 : Int32) (b3 : Int32) (T : Tm), Gq 0 Γ ω LC (uM M0 k) 5 [(0, .ref (th ω k 0)), (1, .int b1), (2, .int b2), (3, .int b3)] [] T (m_X4_conkerToSend_5 n b1 b2 b3 T) := by
  intro n
  induction n with
  | zero =>
    intro b1 b2 b3 T
    rw [m_X4_conkerToSend_5.eq_1]
    exact g_none
  | succ n ih =>
    intro b1 b2 b3 T
    rw [m_X4_conkerToSend_5.eq_2]
    refine g_iload_n h 3 dX4_conkerToSend_5 rfl rfl ?_
    refine g_aload_n h 0 dX4_conkerToSend_6 rfl rfl ?_
    refine g_getI h (v := T 0 10) (uMr M0 k _ _ _) (index := 42) (j := 10) (inS hk 0 (by decide)) (C := RX4) (T := TX4) (N := 13) rfl n_X4_conkerToSend_4 (by decide) rfl (by decide +kernel) dX4_conkerToSend_7 ?_
    refine g_ni (fun v1 => ?_)
    refine g_icmp_ge h 59 dX4_conkerToSend_10 (by decide) (fun hc2 => ?_) (fun hc2 => ?_)
    · skip
      refine g_iload_n h 2 dX4_conkerToSend_59 rfl rfl ?_
      exact g_iret hR rfl dX4_conkerToSend_60
    · skip
      refine g_aload_n h 0 dX4_conkerToSend_13 rfl rfl ?_
      refine g_getR h (index := 36) (j := 8) (inS hk 0 (by decide)) (C := RX4) (T := TX4) (N := 13) rfl n_X4_conkerToSend_4 (by decide) rfl (by decide +kernel) dX4_conkerToSend_14 ?_
      refine g_iload_n h 3 dX4_conkerToSend_17 rfl rfl ?_
      refine g_iald h (v := T 9 b3.toNatClampNeg) (uMr M0 k _ _ _) (inS hk 9 (by decide)) dX4_conkerToSend_18 ?_
      refine g_ni (fun v3 => ?_)
      refine g_if_ne h 53 dX4_conkerToSend_19 (by decide) (fun hc4 => ?_) (fun hc4 => ?_)
      · skip
        refine g_aload_n h 0 dX4_conkerToSend_22 rfl rfl ?_
        refine g_getR h (index := 18) (j := 2) (inS hk 0 (by decide)) (C := RX4) (T := TX4) (N := 13) rfl n_X4_conkerToSend_4 (by decide) rfl (by decide +kernel) dX4_conkerToSend_23 ?_
        refine g_iload_n h 3 dX4_conkerToSend_26 rfl rfl ?_
        refine g_iald h (v := T 3 b3.toNatClampNeg) (uMr M0 k _ _ _) (inS hk 3 (by decide)) dX4_conkerToSend_27 ?_
        refine g_ni (fun v5 => ?_)
        refine g_iload_n h 1 dX4_conkerToSend_28 rfl rfl ?_
        refine g_icmp_ne h 53 dX4_conkerToSend_29 (by decide) (fun hc6 => ?_) (fun hc6 => ?_)
        · skip
          refine g_iload_n h 2 dX4_conkerToSend_32 rfl rfl ?_
          refine g_if_lt h 51 dX4_conkerToSend_33 (by decide) (fun hc7 => ?_) (fun hc7 => ?_)
          · skip
            refine g_sub (lv' := [(0, .ref (th ω k 0)), (1, .int b1), (3, .int b3)]) [0, 1, 3] rfl ?_
            exact b_X4_conkerToSend_51 hk h hR _ ih _ _ _
          · skip
            refine g_aload_n h 0 dX4_conkerToSend_36 rfl rfl ?_
            refine g_getR h (index := 30) (j := 6) (inS hk 0 (by decide)) (C := RX4) (T := TX4) (N := 13) rfl n_X4_conkerToSend_4 (by decide) rfl (by decide +kernel) dX4_conkerToSend_37 ?_
            refine g_iload_n h 3 dX4_conkerToSend_40 rfl rfl ?_
            refine g_iald h (v := T 7 b3.toNatClampNeg) (uMr M0 k _ _ _) (inS hk 7 (by decide)) dX4_conkerToSend_41 ?_
            refine g_ni (fun v8 => ?_)
            refine g_aload_n h 0 dX4_conkerToSend_42 rfl rfl ?_
            refine g_getR h (index := 30) (j := 6) (inS hk 0 (by decide)) (C := RX4) (T := TX4) (N := 13) rfl n_X4_conkerToSend_4 (by decide) rfl (by decide +kernel) dX4_conkerToSend_43 ?_
            refine g_iload_n h 2 dX4_conkerToSend_46 rfl rfl ?_
            refine g_iald h (v := T 7 b2.toNatClampNeg) (uMr M0 k _ _ _) (inS hk 7 (by decide)) dX4_conkerToSend_47 ?_
            refine g_ni (fun v9 => ?_)
            refine g_icmp_le h 53 dX4_conkerToSend_48 (by decide) (fun hc10 => ?_) (fun hc10 => ?_)
            · skip
              exact b_X4_conkerToSend_53 hk h hR _ ih _ _ _ _
            · skip
              refine g_sub (lv' := [(0, .ref (th ω k 0)), (1, .int b1), (3, .int b3)]) [0, 1, 3] rfl ?_
              exact b_X4_conkerToSend_51 hk h hR _ ih _ _ _
        · skip
          exact b_X4_conkerToSend_53 hk h hR _ ih _ _ _ _
      · skip
        exact b_X4_conkerToSend_53 hk h hR _ ih _ _ _ _
set_option maxHeartbeats 4000000 in
set_option maxRecDepth 100000 in
theorem c_X4_conkerToSend (l : Launch) (ω : Wd) (k : Nat) (hk : kS k) (M0 : Mm) (T : Tm) (a1 : Int32) {r : Int32} {T' : Tm} (hm : m_X4_conkerToSend a1 T = some (r, T')) : MI l yX4_conkerToSend wsX4_conkerToSend ⟨0, 0, 0, 0⟩ ω LC [.ref (th ω k 0), .int a1] (uM M0 k T) r (uM M0 k T') := by
  refine met_i (cc := cX4_conkerToSend) (maxL := 4) (ty := .int) (by decide +kernel) rfl (Nat.le_of_ble_eq_true rfl) LC_nd ?_
  intro Γ h hR ht
  suffices K : Gq 0 Γ ω LC (uM M0 k) 0 [(0, .ref (th ω k 0)), (1, .int a1)] [] T (m_X4_conkerToSend a1 T) from K (r, T') hm ht (c0 Γ)
  unfold m_X4_conkerToSend
  refine g_bipush h (-5) dX4_conkerToSend_0 (by decide) ?_
  refine g_istore_n h rfl (lv' := [(2, .int (-5)), (0, .ref (th ω k 0)), (1, .int a1)]) dX4_conkerToSend_2 (by decide) [0, 1, 2] rfl ?_
  refine g_iconst h 0 dX4_conkerToSend_3 (by decide) ?_
  refine g_istore_n h rfl (lv' := [(3, .int 0), (2, .int (-5)), (0, .ref (th ω k 0)), (1, .int a1)]) dX4_conkerToSend_4 (by decide) [0, 1, 2, 3] rfl ?_
  refine g_sub (lv' := [(0, .ref (th ω k 0)), (1, .int a1), (2, .int (-5)), (3, .int 0)]) [2, 3, 1, 0] rfl ?_
  exact b_X4_conkerToSend_5 hk h hR fu _ _ _ _
theorem n_X2_lineUp_2 : ∀ w ∈ wsX20, w ∈ wsX2_lineUp := by decide +kernel
set_option maxHeartbeats 4000000 in
set_option maxRecDepth 100000 in
theorem b_X2_lineUp_29 {Γ : Cx} {l : Launch} {ω : Wd}  (h : CxOk Γ l ⟨1, 0, 0, 24⟩ 4 ω LC cX2_lineUp yX2_lineUp.cls wsX2_lineUp) (hR : RetV Γ ω LC cX2_lineUp) (κ7 : Int32 → Mm → Option (Int32 × Mm)) (hκ7 : ∀ (b2 : Int32) (M : Mm), Gq 0 Γ ω LC eI 7 [(0, .ref (th ω 11 0)), (1, .ref (th ω 1 0)), (2, .int b2)] [] M (κ7 b2 M)) : ∀ (b2 : Int32) (M : Mm), Gq 0 Γ ω LC eI 29 [(0, .ref (th ω 11 0)), (1, .ref (th ω 1 0)), (2, .int b2)] [] M (m_X2_lineUp_29 κ7 b2 M) := by
  intro b2 M
  unfold m_X2_lineUp_29
  refine g_iinc h (b2 + 1) (lv' := [(2, .int (b2 + 1)), (0, .ref (th ω 11 0)), (1, .ref (th ω 1 0))]) dX2_lineUp_29 2 rfl (congrArg (fun z => b2 + z) (by decide)) (by decide) [0, 1, 2] rfl ?_
  refine g_goto h (tgt := 7) dX2_lineUp_32 (by decide) ?_
  refine g_sub (lv' := [(0, .ref (th ω 11 0)), (1, .ref (th ω 1 0)), (2, .int (b2 + 1))]) [1, 2, 0] rfl ?_
  exact hκ7 _ _
set_option maxHeartbeats 4000000 in
set_option maxRecDepth 100000 in
theorem b_X2_lineUp_7 {Γ : Cx} {l : Launch} {ω : Wd}  (h : CxOk Γ l ⟨1, 0, 0, 24⟩ 4 ω LC cX2_lineUp yX2_lineUp.cls wsX2_lineUp) (hR : RetV Γ ω LC cX2_lineUp) : ∀ (n : Nat) (b2 : Int32) (M : Mm), Gq 0 Γ ω LC eI 7 [(0, .ref (th ω 11 0)), (1, .ref (th ω 1 0)), (2, .int b2)] [] M (m_X2_lineUp_7 n b2 M) := by
  intro n
  induction n with
  | zero =>
    intro b2 M
    rw [m_X2_lineUp_7.eq_1]
    exact g_none
  | succ n ih =>
    intro b2 M
    rw [m_X2_lineUp_7.eq_2]
    refine g_iload_n h 2 dX2_lineUp_7 rfl rfl ?_
    refine g_bipush h 6 dX2_lineUp_8 (by decide) ?_
    refine g_icmp_ge h 35 dX2_lineUp_10 (by decide) (fun hc1 => ?_) (fun hc1 => ?_)
    · skip
      exact g_vret hR dX2_lineUp_35
    · skip
      refine g_aload_n h 1 dX2_lineUp_13 rfl rfl ?_
      refine g_iload_n h 2 dX2_lineUp_14 rfl rfl ?_
      refine g_callI h (As := [.int b2]) (fun t => uM M 1 t) (fun r t hG => MI_self (c_X4_conkerToSend l ω 1 kS1 M _ b2 hG)) (inS kS1 0 (by decide)) (C := RX4) (T := TX4) (N := 13) rfl 1 rfl gX2_lineUp_X4_conkerToSend rfl rfl rfl (by decide +kernel) (by decide) (st0 := _) rfl (Nat.le_of_ble_eq_true rfl) dX2_lineUp_15 (fun r2 M3 => ?_)
      refine g_nm (fun M4 => ?_)
      refine g_istore_n h rfl (lv' := [(3, .int r2), (0, .ref (th ω 11 0)), (1, .ref (th ω 1 0)), (2, .int b2)]) dX2_lineUp_18 (by decide) [0, 1, 2, 3] rfl ?_
      refine g_iload_n h 0 dX2_lineUp_19 rfl rfl ?_
      refine g_if_lt h 29 dX2_lineUp_20 (by decide) (fun hc5 => ?_) (fun hc5 => ?_)
      · skip
        refine g_sub (lv' := [(0, .ref (th ω 11 0)), (1, .ref (th ω 1 0)), (2, .int b2)]) [1, 2, 3] rfl ?_
        exact b_X2_lineUp_29 h hR _ ih _ _
      · skip
        refine g_aload_n h 1 dX2_lineUp_23 rfl rfl ?_
        refine g_iload_n h 0 dX2_lineUp_24 rfl rfl ?_
        refine g_aload_n h 2 dX2_lineUp_25 rfl rfl ?_
        refine g_callV h (As := [.int r2, .ref (th ω 1 0)]) (fun t => t) (fun r t hG => c_X2_insert l ω _ r2 hG) iC_11_0 (C := RX2) (T := TX2) (N := 2) rfl 2 rfl gX2_lineUp_X2_insert rfl rfl rfl (by decide +kernel) (by decide) (st0 := _) rfl (Nat.le_of_ble_eq_true rfl) dX2_lineUp_26 (fun r6 M7 => ?_)
        refine g_sub (lv' := [(0, .ref (th ω 11 0)), (1, .ref (th ω 1 0)), (2, .int b2)]) [1, 2, 3] rfl ?_
        exact b_X2_lineUp_29 h hR _ ih _ _
set_option maxHeartbeats 4000000 in
set_option maxRecDepth 100000 in
theorem c_X2_lineUp (l : Launch) (ω : Wd)  (M : Mm) {r : Int32} {M' : Mm} (hm : m_X2_lineUp M = some (r, M')) : MV l yX2_lineUp wsX2_lineUp ⟨1, 0, 0, 24⟩ ω LC [.ref (th ω 11 0), .ref (th ω 1 0)] M M' := by
  refine met_v (cc := cX2_lineUp) (maxL := 4) (r := r) (by decide +kernel) rfl (Nat.le_of_ble_eq_true rfl) LC_nd ?_
  intro Γ h hR ht
  suffices K : Gq 0 Γ ω LC eI 0 [(0, .ref (th ω 11 0)), (1, .ref (th ω 1 0))] [] M (m_X2_lineUp M) from K (r, M') hm ht (c0 Γ)
  unfold m_X2_lineUp
  refine g_aload_n h 0 dX2_lineUp_0 rfl rfl ?_
  refine g_iconst h 0 dX2_lineUp_1 (by decide) ?_
  refine g_putI h (x' := wM M 11 0 1 0) rfl (index := 15) (j := 1) iC_11_0 (C := RX2) (T := TX2) (N := 2) rfl n_X2_lineUp_2 tyX2_ok nmX2 (by decide) rfl (by decide +kernel) rfl (ty := .int) (by decide +kernel) rfl rfl dX2_lineUp_2 ?_
  refine g_nm (fun M1 => ?_)
  refine g_iconst h 0 dX2_lineUp_5 (by decide) ?_
  refine g_istore_n h rfl (lv' := [(2, .int 0), (0, .ref (th ω 11 0)), (1, .ref (th ω 1 0))]) dX2_lineUp_6 (by decide) [0, 1, 2] rfl ?_
  refine g_sub (lv' := [(0, .ref (th ω 11 0)), (1, .ref (th ω 1 0)), (2, .int 0)]) [1, 2, 0] rfl ?_
  exact b_X2_lineUp_7 h hR fu _ _
theorem n_X2_takeOut_2 : ∀ w ∈ wsX20, w ∈ wsX2_takeOut := by decide +kernel
set_option maxHeartbeats 4000000 in
set_option maxRecDepth 100000 in
theorem b_X2_takeOut_11 {Γ : Cx} {l : Launch} {ω : Wd} {M0 : Mm}  (h : CxOk Γ l ⟨0, 0, 0, 0⟩ 4 ω LC cX2_takeOut yX2_takeOut.cls wsX2_takeOut) (hR : RetI Γ ω LC cX2_takeOut .int) : ∀ (n : Nat) (b2 : Int32) (b3 : Int32) (T : Tm), Gq 0 Γ ω LC (uM M0 11) 11 [(0, .ref (th ω 11 0)), (2, .int b2), (3, .int b3)] [] T (m_X2_takeOut_11 n b2 b3 T) := by
  intro n
  induction n with
  | zero =>
    intro b2 b3 T
    rw [m_X2_takeOut_11.eq_1]
    exact g_none
  | succ n ih =>
    intro b2 b3 T
    rw [m_X2_takeOut_11.eq_2]
    refine g_iload_n h 2 dX2_takeOut_11 rfl rfl ?_
    refine g_aload_n h 0 dX2_takeOut_12 rfl rfl ?_
    refine g_getI h (v := T 0 1) (uMr M0 11 _ _ _) (index := 15) (j := 1) iC_11_0 (C := RX2) (T := TX2) (N := 2) rfl n_X2_takeOut_2 (by decide) rfl (by decide +kernel) dX2_takeOut_13 ?_
    refine g_ni (fun v1 => ?_)
    refine g_icmp_ge h 39 dX2_takeOut_16 (by decide) (fun hc2 => ?_) (fun hc2 => ?_)
    · skip
      refine g_aload_n h 0 dX2_takeOut_39 rfl rfl ?_
      refine g_dup h dX2_takeOut_40 rfl ?_
      refine g_getI h (v := T 0 1) (uMr M0 11 _ _ _) (index := 15) (j := 1) iC_11_0 (C := RX2) (T := TX2) (N := 2) rfl n_X2_takeOut_2 (by decide) rfl (by decide +kernel) dX2_takeOut_41 ?_
      refine g_ni (fun v3 => ?_)
      refine g_iconst h 1 dX2_takeOut_44 (by decide) ?_
      refine g_isub h dX2_takeOut_45 ?_
      refine g_putI h (x' := wT T 0 1 (v3 - 1)) (wM_uM M0 11 _ _ _ _).symm (index := 15) (j := 1) iC_11_0 (C := RX2) (T := TX2) (N := 2) rfl n_X2_takeOut_2 tyX2_ok nmX2 (by decide) rfl (by decide +kernel) rfl (ty := .int) (by decide +kernel) rfl rfl dX2_takeOut_46 ?_
      refine g_nm (fun T4 => ?_)
      refine g_iload_n h 1 dX2_takeOut_49 rfl rfl ?_
      exact g_iret hR rfl dX2_takeOut_50
    · skip
      refine g_aload_n h 0 dX2_takeOut_19 rfl rfl ?_
      refine g_getR h (index := 9) (j := 0) iC_11_0 (C := RX2) (T := TX2) (N := 2) rfl n_X2_takeOut_2 (by decide) rfl (by decide +kernel) dX2_takeOut_20 ?_
      refine g_iload_n h 2 dX2_takeOut_23 rfl rfl ?_
      refine g_iconst h 1 dX2_takeOut_24 (by decide) ?_
      refine g_isub h dX2_takeOut_25 ?_
      refine g_aload_n h 0 dX2_takeOut_26 rfl rfl ?_
      refine g_getR h (index := 9) (j := 0) iC_11_0 (C := RX2) (T := TX2) (N := 2) rfl n_X2_takeOut_2 (by decide) rfl (by decide +kernel) dX2_takeOut_27 ?_
      refine g_iload_n h 2 dX2_takeOut_30 rfl rfl ?_
      refine g_iald h (v := T 1 b3.toNatClampNeg) (uMr M0 11 _ _ _) iC_11_1 dX2_takeOut_31 ?_
      refine g_ni (fun v5 => ?_)
      refine g_iast h (x' := wT T 1 ((b3 - 1).toNatClampNeg) v5) (wM_uM M0 11 _ _ _ _).symm iC_11_1 dX2_takeOut_32 ?_
      refine g_nm (fun T6 => ?_)
      refine g_iinc h (b3 + 1) (lv' := [(3, .int (b3 + 1)), (0, .ref (th ω 11 0)), (2, .int b2)]) dX2_takeOut_33 2 rfl (congrArg (fun z => b3 + z) (by decide)) (by decide) [0, 1, 2] rfl ?_
      refine g_goto h (tgt := 11) dX2_takeOut_36 (by decide) ?_
      refine g_sub (lv' := [(0, .ref (th ω 11 0)), (2, .int b2), (3, .int (b3 + 1))]) [1, 2, 0] rfl ?_
      exact ih _ _ _
set_option maxHeartbeats 4000000 in
set_option maxRecDepth 100000 in
theorem c_X2_takeOut (l : Launch) (ω : Wd)  (M0 : Mm) (T : Tm) (a1 : Int32) {r : Int32} {T' : Tm} (hm : m_X2_takeOut a1 T = some (r, T')) : MI l yX2_takeOut wsX2_takeOut ⟨0, 0, 0, 0⟩ ω LC [.ref (th ω 11 0), .int a1] (uM M0 11 T) r (uM M0 11 T') := by
  refine met_i (cc := cX2_takeOut) (maxL := 4) (ty := .int) (by decide +kernel) rfl (Nat.le_of_ble_eq_true rfl) LC_nd ?_
  intro Γ h hR ht
  suffices K : Gq 0 Γ ω LC (uM M0 11) 0 [(0, .ref (th ω 11 0)), (1, .int a1)] [] T (m_X2_takeOut a1 T) from K (r, T') hm ht (c0 Γ)
  unfold m_X2_takeOut
  refine g_aload_n h 0 dX2_takeOut_0 rfl rfl ?_
  refine g_getR h (index := 9) (j := 0) iC_11_0 (C := RX2) (T := TX2) (N := 2) rfl n_X2_takeOut_2 (by decide) rfl (by decide +kernel) dX2_takeOut_1 ?_
  refine g_iload_n h 1 dX2_takeOut_4 rfl rfl ?_
  refine g_iald h (v := T 1 a1.toNatClampNeg) (uMr M0 11 _ _ _) iC_11_1 dX2_takeOut_5 ?_
  refine g_ni (fun v1 => ?_)
  refine g_istore_n h rfl (lv' := [(2, .int v1), (0, .ref (th ω 11 0)), (1, .int a1)]) dX2_takeOut_6 (by decide) [0, 1, 2] rfl ?_
  refine g_iload_n h 2 dX2_takeOut_7 rfl rfl ?_
  refine g_iconst h 1 dX2_takeOut_8 (by decide) ?_
  refine g_iadd h dX2_takeOut_9 ?_
  refine g_istore_n h rfl (lv' := [(3, .int (a1 + 1)), (2, .int v1), (0, .ref (th ω 11 0)), (1, .int a1)]) dX2_takeOut_10 (by decide) [0, 1, 2, 3] rfl ?_
  refine g_sub (lv' := [(0, .ref (th ω 11 0)), (2, .int v1), (3, .int (a1 + 1))]) [2, 1, 0] rfl ?_
  exact b_X2_takeOut_11 h hR fu _ _ _
theorem n_X4_addConker_4 : ∀ w ∈ wsX40, w ∈ wsX4_addConker := by decide +kernel
set_option maxHeartbeats 4000000 in
set_option maxRecDepth 100000 in
theorem c_X4_addConker (l : Launch) (ω : Wd) (k : Nat) (hk : kS k) (M0 : Mm) (T : Tm) (a1 : Int32) (a2 : Int32) {r : Int32} {T' : Tm} (hm : m_X4_addConker a1 a2 T = some (r, T')) : MI l yX4_addConker wsX4_addConker ⟨0, 0, 0, 0⟩ ω LC [.ref (th ω k 0), .int a1, .int a2] (uM M0 k T) r (uM M0 k T') := by
  refine met_i (cc := cX4_addConker) (maxL := 4) (ty := .int) (by decide +kernel) rfl (Nat.le_of_ble_eq_true rfl) LC_nd ?_
  intro Γ h hR ht
  suffices K : Gq 0 Γ ω LC (uM M0 k) 0 [(0, .ref (th ω k 0)), (1, .int a1), (2, .int a2)] [] T (m_X4_addConker a1 a2 T) from K (r, T') hm ht (c0 Γ)
  unfold m_X4_addConker
  refine g_aload_n h 0 dX4_addConker_0 rfl rfl ?_
  refine g_getI h (v := T 0 10) (uMr M0 k _ _ _) (index := 42) (j := 10) (inS hk 0 (by decide)) (C := RX4) (T := TX4) (N := 13) rfl n_X4_addConker_4 (by decide) rfl (by decide +kernel) dX4_addConker_1 ?_
  refine g_ni (fun v1 => ?_)
  refine g_istore_n h rfl (lv' := [(3, .int v1), (0, .ref (th ω k 0)), (1, .int a1), (2, .int a2)]) dX4_addConker_4 (by decide) [0, 1, 2, 3] rfl ?_
  refine g_aload_n h 1 dX4_addConker_5 rfl rfl ?_
  refine g_getR h (index := 9) (j := 0) (inS hk 0 (by decide)) (C := RX4) (T := TX4) (N := 13) rfl n_X4_addConker_4 (by decide) rfl (by decide +kernel) dX4_addConker_6 ?_
  refine g_iload_n h 2 dX4_addConker_9 rfl rfl ?_
  refine g_dup2 h dX4_addConker_10 rfl rfl ?_
  refine g_iald h (v := T 1 a1.toNatClampNeg) (uMr M0 k _ _ _) (inS hk 1 (by decide)) dX4_addConker_11 ?_
  refine g_ni (fun v2 => ?_)
  refine g_iconst h 1 dX4_addConker_12 (by decide) ?_
  refine g_isub h dX4_addConker_13 ?_
  refine g_iast h (x' := wT T 1 a1.toNatClampNeg (v2 - 1)) (wM_uM M0 k _ _ _ _).symm (inS hk 1 (by decide)) dX4_addConker_14 ?_
  refine g_nm (fun T3 => ?_)
  refine g_aload_n h 1 dX4_addConker_15 rfl rfl ?_
  refine g_getR h (index := 18) (j := 2) (inS hk 0 (by decide)) (C := RX4) (T := TX4) (N := 13) rfl n_X4_addConker_4 (by decide) rfl (by decide +kernel) dX4_addConker_16 ?_
  refine g_iload_n h 0 dX4_addConker_19 rfl rfl ?_
  refine g_iload_n h 2 dX4_addConker_20 rfl rfl ?_
  refine g_iast h (x' := wT T3 3 v1.toNatClampNeg a1) (wM_uM M0 k _ _ _ _).symm (inS hk 3 (by decide)) dX4_addConker_21 ?_
  refine g_nm (fun T4 => ?_)
  refine g_aload_n h 1 dX4_addConker_22 rfl rfl ?_
  refine g_getR h (index := 21) (j := 3) (inS hk 0 (by decide)) (C := RX4) (T := TX4) (N := 13) rfl n_X4_addConker_4 (by decide) rfl (by decide +kernel) dX4_addConker_23 ?_
  refine g_iload_n h 0 dX4_addConker_26 rfl rfl ?_
  refine g_iload_n h 3 dX4_addConker_27 rfl rfl ?_
  refine g_iast h (x' := wT T4 4 v1.toNatClampNeg a2) (wM_uM M0 k _ _ _ _).symm (inS hk 4 (by decide)) dX4_addConker_28 ?_
  refine g_nm (fun T5 => ?_)
  refine g_aload_n h 1 dX4_addConker_29 rfl rfl ?_
  refine g_getR h (index := 24) (j := 4) (inS hk 0 (by decide)) (C := RX4) (T := TX4) (N := 13) rfl n_X4_addConker_4 (by decide) rfl (by decide +kernel) dX4_addConker_30 ?_
  refine g_iload_n h 0 dX4_addConker_33 rfl rfl ?_
  refine g_iconst h 0 dX4_addConker_34 (by decide) ?_
  refine g_iast h (x' := wT T5 5 v1.toNatClampNeg 0) (wM_uM M0 k _ _ _ _).symm (inS hk 5 (by decide)) dX4_addConker_35 ?_
  refine g_nm (fun T6 => ?_)
  refine g_aload_n h 1 dX4_addConker_36 rfl rfl ?_
  refine g_getR h (index := 27) (j := 5) (inS hk 0 (by decide)) (C := RX4) (T := TX4) (N := 13) rfl n_X4_addConker_4 (by decide) rfl (by decide +kernel) dX4_addConker_37 ?_
  refine g_iload_n h 0 dX4_addConker_40 rfl rfl ?_
  refine g_iconst h 0 dX4_addConker_41 (by decide) ?_
  refine g_iast h (x' := wT T6 6 v1.toNatClampNeg 0) (wM_uM M0 k _ _ _ _).symm (inS hk 6 (by decide)) dX4_addConker_42 ?_
  refine g_nm (fun T7 => ?_)
  refine g_aload_n h 1 dX4_addConker_43 rfl rfl ?_
  refine g_getR h (index := 30) (j := 6) (inS hk 0 (by decide)) (C := RX4) (T := TX4) (N := 13) rfl n_X4_addConker_4 (by decide) rfl (by decide +kernel) dX4_addConker_44 ?_
  refine g_iload_n h 0 dX4_addConker_47 rfl rfl ?_
  refine g_iconst h 0 dX4_addConker_48 (by decide) ?_
  refine g_iast h (x' := wT T7 7 v1.toNatClampNeg 0) (wM_uM M0 k _ _ _ _).symm (inS hk 7 (by decide)) dX4_addConker_49 ?_
  refine g_nm (fun T8 => ?_)
  refine g_aload_n h 1 dX4_addConker_50 rfl rfl ?_
  refine g_getR h (index := 33) (j := 7) (inS hk 0 (by decide)) (C := RX4) (T := TX4) (N := 13) rfl n_X4_addConker_4 (by decide) rfl (by decide +kernel) dX4_addConker_51 ?_
  refine g_iload_n h 0 dX4_addConker_54 rfl rfl ?_
  refine g_bipush h (-5) dX4_addConker_55 (by decide) ?_
  refine g_iast h (x' := wT T8 8 v1.toNatClampNeg (-5)) (wM_uM M0 k _ _ _ _).symm (inS hk 8 (by decide)) dX4_addConker_57 ?_
  refine g_nm (fun T9 => ?_)
  refine g_aload_n h 1 dX4_addConker_58 rfl rfl ?_
  refine g_getR h (index := 36) (j := 8) (inS hk 0 (by decide)) (C := RX4) (T := TX4) (N := 13) rfl n_X4_addConker_4 (by decide) rfl (by decide +kernel) dX4_addConker_59 ?_
  refine g_iload_n h 0 dX4_addConker_62 rfl rfl ?_
  refine g_iconst h 0 dX4_addConker_63 (by decide) ?_
  refine g_iast h (x' := wT T9 9 v1.toNatClampNeg 0) (wM_uM M0 k _ _ _ _).symm (inS hk 9 (by decide)) dX4_addConker_64 ?_
  refine g_nm (fun T10 => ?_)
  refine g_aload_n h 1 dX4_addConker_65 rfl rfl ?_
  refine g_getR h (index := 39) (j := 9) (inS hk 0 (by decide)) (C := RX4) (T := TX4) (N := 13) rfl n_X4_addConker_4 (by decide) rfl (by decide +kernel) dX4_addConker_66 ?_
  refine g_iload_n h 0 dX4_addConker_69 rfl rfl ?_
  refine g_bipush h (-5) dX4_addConker_70 (by decide) ?_
  refine g_iast h (x' := wT T10 10 v1.toNatClampNeg (-5)) (wM_uM M0 k _ _ _ _).symm (inS hk 10 (by decide)) dX4_addConker_72 ?_
  refine g_nm (fun T11 => ?_)
  refine g_aload_n h 1 dX4_addConker_73 rfl rfl ?_
  refine g_dup h dX4_addConker_74 rfl ?_
  refine g_getI h (v := T11 0 10) (uMr M0 k _ _ _) (index := 42) (j := 10) (inS hk 0 (by decide)) (C := RX4) (T := TX4) (N := 13) rfl n_X4_addConker_4 (by decide) rfl (by decide +kernel) dX4_addConker_75 ?_
  refine g_ni (fun v12 => ?_)
  refine g_iconst h 1 dX4_addConker_78 (by decide) ?_
  refine g_iadd h dX4_addConker_79 ?_
  refine g_putI h (x' := wT T11 0 10 (v12 + 1)) (wM_uM M0 k _ _ _ _).symm (index := 42) (j := 10) (inS hk 0 (by decide)) (C := RX4) (T := TX4) (N := 13) rfl n_X4_addConker_4 tyX4_ok nmX4 (by decide) rfl (by decide +kernel) rfl (ty := .int) (by decide +kernel) rfl rfl dX4_addConker_80 ?_
  refine g_nm (fun T13 => ?_)
  refine g_iload_n h 0 dX4_addConker_83 rfl rfl ?_
  exact g_iret hR rfl dX4_addConker_84
theorem n_X4_areInPlay_4 : ∀ w ∈ wsX40, w ∈ wsX4_areInPlay := by decide +kernel
set_option maxHeartbeats 4000000 in
set_option maxRecDepth 100000 in
theorem c_X4_areInPlay (l : Launch) (ω : Wd) (k : Nat) (hk : kS k) (M0 : Mm) (T : Tm) (a1 : Int32) (a2 : Int32) {r : Int32} {T' : Tm} (hm : m_X4_areInPlay a1 a2 T = some (r, T')) : MI l yX4_areInPlay wsX4_areInPlay ⟨0, 0, 0, 0⟩ ω LC [.ref (th ω k 0), .int a1, .int a2] (uM M0 k T) r (uM M0 k T') := by
  refine met_i (cc := cX4_areInPlay) (maxL := 3) (ty := .boolean) (by decide +kernel) rfl (Nat.le_of_ble_eq_true rfl) LC_nd ?_
  intro Γ h hR ht
  suffices K : Gq 0 Γ ω LC (uM M0 k) 0 [(0, .ref (th ω k 0)), (1, .int a1), (2, .int a2)] [] T (m_X4_areInPlay a1 a2 T) from K (r, T') hm ht (c0 Γ)
  unfold m_X4_areInPlay
  refine g_aload_n h 0 dX4_areInPlay_0 rfl rfl ?_
  refine g_getR h (index := 36) (j := 8) (inS hk 0 (by decide)) (C := RX4) (T := TX4) (N := 13) rfl n_X4_areInPlay_4 (by decide) rfl (by decide +kernel) dX4_areInPlay_1 ?_
  refine g_iload_n h 1 dX4_areInPlay_4 rfl rfl ?_
  refine g_iald h (v := T 9 a1.toNatClampNeg) (uMr M0 k _ _ _) (inS hk 9 (by decide)) dX4_areInPlay_5 ?_
  refine g_ni (fun v1 => ?_)
  refine g_if_ne h 22 dX4_areInPlay_6 (by decide) (fun hc2 => ?_) (fun hc2 => ?_)
  · skip
    refine g_aload_n h 0 dX4_areInPlay_9 rfl rfl ?_
    refine g_getR h (index := 36) (j := 8) (inS hk 0 (by decide)) (C := RX4) (T := TX4) (N := 13) rfl n_X4_areInPlay_4 (by decide) rfl (by decide +kernel) dX4_areInPlay_10 ?_
    refine g_iload_n h 2 dX4_areInPlay_13 rfl rfl ?_
    refine g_iald h (v := T 9 a2.toNatClampNeg) (uMr M0 k _ _ _) (inS hk 9 (by decide)) dX4_areInPlay_14 ?_
    refine g_ni (fun v3 => ?_)
    refine g_if_ne h 22 dX4_areInPlay_15 (by decide) (fun hc4 => ?_) (fun hc4 => ?_)
    · skip
      refine g_iconst h 1 dX4_areInPlay_18 (by decide) ?_
      refine g_goto h (tgt := 23) dX4_areInPlay_19 (by decide) ?_
      exact g_iret hR (by decide) dX4_areInPlay_23
    · skip
      refine g_iconst h 0 dX4_areInPlay_22 (by decide) ?_
      exact g_iret hR (by decide) dX4_areInPlay_23
  · skip
    refine g_iconst h 0 dX4_areInPlay_22 (by decide) ?_
    exact g_iret hR (by decide) dX4_areInPlay_23
theorem n_X4_boastsTold_4 : ∀ w ∈ wsX40, w ∈ wsX4_boastsTold := by decide +kernel
set_option maxHeartbeats 4000000 in
set_option maxRecDepth 100000 in
theorem b_X4_boastsTold_26 {Γ : Cx} {l : Launch} {ω : Wd} {M0 : Mm} {k : Nat} (hk : kS k) (h : CxOk Γ l ⟨0, 0, 0, 0⟩ 3 ω LC cX4_boastsTold yX4_boastsTold.cls wsX4_boastsTold) (hR : RetI Γ ω LC cX4_boastsTold .int) (κ4 : Int32 → Int32 → Tm → Option (Int32 × Tm)) (hκ4 : ∀ (b1 : Int32) (b2 : Int32) (T : Tm), Gq 0 Γ ω LC (uM M0 k) 4 [(0, .ref (th ω k 0)), (1, .int b1), (2, .int b2)] [] T (κ4 b1 b2 T)) : ∀ (b1 : Int32) (b2 : Int32) (T : Tm), Gq 0 Γ ω LC (uM M0 k) 26 [(0, .ref (th ω k 0)), (1, .int b1), (2, .int b2)] [] T (m_X4_boastsTold_26 κ4 b1 b2 T) := by
  intro b1 b2 T
  unfold m_X4_boastsTold_26
  refine g_iinc h (b2 + 1) (lv' := [(2, .int (b2 + 1)), (0, .ref (th ω k 0)), (1, .int b1)]) dX4_boastsTold_26 2 rfl (congrArg (fun z => b2 + z) (by decide)) (by decide) [0, 1, 2] rfl ?_
  refine g_goto h (tgt := 4) dX4_boastsTold_29 (by decide) ?_
  refine g_sub (lv' := [(0, .ref (th ω k 0)), (1, .int b1), (2, .int (b2 + 1))]) [1, 2, 0] rfl ?_
  exact hκ4 _ _ _
set_option maxHeartbeats 4000000 in
set_option maxRecDepth 100000 in
theorem b_X4_boastsTold_4 {Γ : Cx} {l : Launch} {ω : Wd} {M0 : Mm} {k : Nat} (hk : kS k) (h : CxOk Γ l ⟨0, 0, 0, 0⟩ 3 ω LC cX4_boastsTold yX4_boastsTold.cls wsX4_boastsTold) (hR : RetI Γ ω LC cX4_boastsTold .int) : ∀ (n : Nat) (b1 : Int32) (b2 : Int32) (T : Tm), Gq 0 Γ ω LC (uM M0 k) 4 [(0, .ref (th ω k 0)), (1, .int b1), (2, .int b2)] [] T (m_X4_boastsTold_4 n b1 b2 T) := by
  intro n
  induction n with
  | zero =>
    intro b1 b2 T
    rw [m_X4_boastsTold_4.eq_1]
    exact g_none
  | succ n ih =>
    intro b1 b2 T
    rw [m_X4_boastsTold_4.eq_2]
    refine g_iload_n h 2 dX4_boastsTold_4 rfl rfl ?_
    refine g_aload_n h 0 dX4_boastsTold_5 rfl rfl ?_
    refine g_getI h (v := T 0 10) (uMr M0 k _ _ _) (index := 42) (j := 10) (inS hk 0 (by decide)) (C := RX4) (T := TX4) (N := 13) rfl n_X4_boastsTold_4 (by decide) rfl (by decide +kernel) dX4_boastsTold_6 ?_
    refine g_ni (fun v1 => ?_)
    refine g_icmp_ge h 32 dX4_boastsTold_9 (by decide) (fun hc2 => ?_) (fun hc2 => ?_)
    · skip
      refine g_iload_n h 1 dX4_boastsTold_32 rfl rfl ?_
      exact g_iret hR rfl dX4_boastsTold_33
    · skip
      refine g_aload_n h 0 dX4_boastsTold_12 rfl rfl ?_
      refine g_getR h (index := 33) (j := 7) (inS hk 0 (by decide)) (C := RX4) (T := TX4) (N := 13) rfl n_X4_boastsTold_4 (by decide) rfl (by decide +kernel) dX4_boastsTold_13 ?_
      refine g_iload_n h 2 dX4_boastsTold_16 rfl rfl ?_
      refine g_iald h (v := T 8 b2.toNatClampNeg) (uMr M0 k _ _ _) (inS hk 8 (by decide)) dX4_boastsTold_17 ?_
      refine g_ni (fun v3 => ?_)
      refine g_bipush h (-5) dX4_boastsTold_18 (by decide) ?_
      refine g_icmp_eq h 26 dX4_boastsTold_20 (by decide) (fun hc4 => ?_) (fun hc4 => ?_)
      · skip
        exact b_X4_boastsTold_26 hk h hR _ ih _ _ _
      · skip
        refine g_iinc h (b1 + 1) (lv' := [(1, .int (b1 + 1)), (0, .ref (th ω k 0)), (2, .int b2)]) dX4_boastsTold_23 1 rfl (congrArg (fun z => b1 + z) (by decide)) (by decide) [0, 1, 2] rfl ?_
        refine g_sub (lv' := [(0, .ref (th ω k 0)), (1, .int (b1 + 1)), (2, .int b2)]) [1, 0, 2] rfl ?_
        exact b_X4_boastsTold_26 hk h hR _ ih _ _ _
set_option maxHeartbeats 4000000 in
set_option maxRecDepth 100000 in
theorem c_X4_boastsTold (l : Launch) (ω : Wd) (k : Nat) (hk : kS k) (M0 : Mm) (T : Tm) {r : Int32} {T' : Tm} (hm : m_X4_boastsTold T = some (r, T')) : MI l yX4_boastsTold wsX4_boastsTold ⟨0, 0, 0, 0⟩ ω LC [.ref (th ω k 0)] (uM M0 k T) r (uM M0 k T') := by
  refine met_i (cc := cX4_boastsTold) (maxL := 3) (ty := .int) (by decide +kernel) rfl (Nat.le_of_ble_eq_true rfl) LC_nd ?_
  intro Γ h hR ht
  suffices K : Gq 0 Γ ω LC (uM M0 k) 0 [(0, .ref (th ω k 0))] [] T (m_X4_boastsTold T) from K (r, T') hm ht (c0 Γ)
  unfold m_X4_boastsTold
  refine g_iconst h 0 dX4_boastsTold_0 (by decide) ?_
  refine g_istore_n h rfl (lv' := [(1, .int 0), (0, .ref (th ω k 0))]) dX4_boastsTold_1 (by decide) [0, 1] rfl ?_
  refine g_iconst h 0 dX4_boastsTold_2 (by decide) ?_
  refine g_istore_n h rfl (lv' := [(2, .int 0), (1, .int 0), (0, .ref (th ω k 0))]) dX4_boastsTold_3 (by decide) [0, 1, 2] rfl ?_
  refine g_sub (lv' := [(0, .ref (th ω k 0)), (1, .int 0), (2, .int 0)]) [2, 1, 0] rfl ?_
  exact b_X4_boastsTold_4 hk h hR fu _ _ _
theorem n_X4_boastsTooHigh_4 : ∀ w ∈ wsX40, w ∈ wsX4_boastsTooHigh := by decide +kernel
set_option maxHeartbeats 4000000 in
set_option maxRecDepth 100000 in
theorem b_X4_boastsTooHigh_30 {Γ : Cx} {l : Launch} {ω : Wd} {M0 : Mm} {k : Nat} (hk : kS k) (h : CxOk Γ l ⟨0, 0, 0, 0⟩ 3 ω LC cX4_boastsTooHigh yX4_boastsTooHigh.cls wsX4_boastsTooHigh) (hR : RetI Γ ω LC cX4_boastsTooHigh .int) (κ4 : Int32 → Int32 → Tm → Option (Int32 × Tm)) (hκ4 : ∀ (b1 : Int32) (b2 : Int32) (T : Tm), Gq 0 Γ ω LC (uM M0 k) 4 [(0, .ref (th ω k 0)), (1, .int b1), (2, .int b2)] [] T (κ4 b1 b2 T)) : ∀ (b1 : Int32) (b2 : Int32) (T : Tm), Gq 0 Γ ω LC (uM M0 k) 30 [(0, .ref (th ω k 0)), (1, .int b1), (2, .int b2)] [] T (m_X4_boastsTooHigh_30 κ4 b1 b2 T) := by
  intro b1 b2 T
  unfold m_X4_boastsTooHigh_30
  refine g_iinc h (b2 + 1) (lv' := [(2, .int (b2 + 1)), (0, .ref (th ω k 0)), (1, .int b1)]) dX4_boastsTooHigh_30 2 rfl (congrArg (fun z => b2 + z) (by decide)) (by decide) [0, 1, 2] rfl ?_
  refine g_goto h (tgt := 4) dX4_boastsTooHigh_33 (by decide) ?_
  refine g_sub (lv' := [(0, .ref (th ω k 0)), (1, .int b1), (2, .int (b2 + 1))]) [1, 2, 0] rfl ?_
  exact hκ4 _ _ _
set_option maxHeartbeats 4000000 in
set_option maxRecDepth 100000 in
theorem b_X4_boastsTooHigh_4 {Γ : Cx} {l : Launch} {ω : Wd} {M0 : Mm} {k : Nat} (hk : kS k) (h : CxOk Γ l ⟨0, 0, 0, 0⟩ 3 ω LC cX4_boastsTooHigh yX4_boastsTooHigh.cls wsX4_boastsTooHigh) (hR : RetI Γ ω LC cX4_boastsTooHigh .int) : ∀ (n : Nat) (b1 : Int32) (b2 : Int32) (T : Tm), Gq 0 Γ ω LC (uM M0 k) 4 [(0, .ref (th ω k 0)), (1, .int b1), (2, .int b2)] [] T (m_X4_boastsTooHigh_4 n b1 b2 T) := by
  intro n
  induction n with
  | zero =>
    intro b1 b2 T
    rw [m_X4_boastsTooHigh_4.eq_1]
    exact g_none
  | succ n ih =>
    intro b1 b2 T
    rw [m_X4_boastsTooHigh_4.eq_2]
    refine g_iload_n h 2 dX4_boastsTooHigh_4 rfl rfl ?_
    refine g_aload_n h 0 dX4_boastsTooHigh_5 rfl rfl ?_
    refine g_getI h (v := T 0 10) (uMr M0 k _ _ _) (index := 42) (j := 10) (inS hk 0 (by decide)) (C := RX4) (T := TX4) (N := 13) rfl n_X4_boastsTooHigh_4 (by decide) rfl (by decide +kernel) dX4_boastsTooHigh_6 ?_
    refine g_ni (fun v1 => ?_)
    refine g_icmp_ge h 36 dX4_boastsTooHigh_9 (by decide) (fun hc2 => ?_) (fun hc2 => ?_)
    · skip
      refine g_iload_n h 1 dX4_boastsTooHigh_36 rfl rfl ?_
      exact g_iret hR rfl dX4_boastsTooHigh_37
    · skip
      refine g_aload_n h 0 dX4_boastsTooHigh_12 rfl rfl ?_
      refine g_getR h (index := 33) (j := 7) (inS hk 0 (by decide)) (C := RX4) (T := TX4) (N := 13) rfl n_X4_boastsTooHigh_4 (by decide) rfl (by decide +kernel) dX4_boastsTooHigh_13 ?_
      refine g_iload_n h 2 dX4_boastsTooHigh_16 rfl rfl ?_
      refine g_iald h (v := T 8 b2.toNatClampNeg) (uMr M0 k _ _ _) (inS hk 8 (by decide)) dX4_boastsTooHigh_17 ?_
      refine g_ni (fun v3 => ?_)
      refine g_aload_n h 0 dX4_boastsTooHigh_18 rfl rfl ?_
      refine g_getR h (index := 30) (j := 6) (inS hk 0 (by decide)) (C := RX4) (T := TX4) (N := 13) rfl n_X4_boastsTooHigh_4 (by decide) rfl (by decide +kernel) dX4_boastsTooHigh_19 ?_
      refine g_iload_n h 2 dX4_boastsTooHigh_22 rfl rfl ?_
      refine g_iald h (v := T 7 b2.toNatClampNeg) (uMr M0 k _ _ _) (inS hk 7 (by decide)) dX4_boastsTooHigh_23 ?_
      refine g_ni (fun v4 => ?_)
      refine g_icmp_le h 30 dX4_boastsTooHigh_24 (by decide) (fun hc5 => ?_) (fun hc5 => ?_)
      · skip
        exact b_X4_boastsTooHigh_30 hk h hR _ ih _ _ _
      · skip
        refine g_iinc h (b1 + 1) (lv' := [(1, .int (b1 + 1)), (0, .ref (th ω k 0)), (2, .int b2)]) dX4_boastsTooHigh_27 1 rfl (congrArg (fun z => b1 + z) (by decide)) (by decide) [0, 1, 2] rfl ?_
        refine g_sub (lv' := [(0, .ref (th ω k 0)), (1, .int (b1 + 1)), (2, .int b2)]) [1, 0, 2] rfl ?_
        exact b_X4_boastsTooHigh_30 hk h hR _ ih _ _ _
set_option maxHeartbeats 4000000 in
set_option maxRecDepth 100000 in
theorem c_X4_boastsTooHigh (l : Launch) (ω : Wd) (k : Nat) (hk : kS k) (M0 : Mm) (T : Tm) {r : Int32} {T' : Tm} (hm : m_X4_boastsTooHigh T = some (r, T')) : MI l yX4_boastsTooHigh wsX4_boastsTooHigh ⟨0, 0, 0, 0⟩ ω LC [.ref (th ω k 0)] (uM M0 k T) r (uM M0 k T') := by
  refine met_i (cc := cX4_boastsTooHigh) (maxL := 3) (ty := .int) (by decide +kernel) rfl (Nat.le_of_ble_eq_true rfl) LC_nd ?_
  intro Γ h hR ht
  suffices K : Gq 0 Γ ω LC (uM M0 k) 0 [(0, .ref (th ω k 0))] [] T (m_X4_boastsTooHigh T) from K (r, T') hm ht (c0 Γ)
  unfold m_X4_boastsTooHigh
  refine g_iconst h 0 dX4_boastsTooHigh_0 (by decide) ?_
  refine g_istore_n h rfl (lv' := [(1, .int 0), (0, .ref (th ω k 0))]) dX4_boastsTooHigh_1 (by decide) [0, 1] rfl ?_
  refine g_iconst h 0 dX4_boastsTooHigh_2 (by decide) ?_
  refine g_istore_n h rfl (lv' := [(2, .int 0), (1, .int 0), (0, .ref (th ω k 0))]) dX4_boastsTooHigh_3 (by decide) [0, 1, 2] rfl ?_
  refine g_sub (lv' := [(0, .ref (th ω k 0)), (1, .int 0), (2, .int 0)]) [2, 1, 0] rfl ?_
  exact b_X4_boastsTooHigh_4 hk h hR fu _ _ _
set_option maxHeartbeats 4000000 in
set_option maxRecDepth 100000 in
theorem c_X5_isWithin (l : Launch) (ω : Wd)  (M : Mm) (a0 : Int32) (a1 : Int32) (a2 : Int32) {r : Int32} {M' : Mm} (hm : m_X5_isWithin a0 a1 a2 M = some (r, M')) : MI l yX5_isWithin wsX5_isWithin ⟨0, 0, 0, 0⟩ ω L00 [.int a0, .int a1, .int a2] M r M' := by
  refine met_i (cc := cX5_isWithin) (maxL := 3) (ty := .boolean) (by decide +kernel) rfl (Nat.le_of_ble_eq_true rfl) L00_nd ?_
  intro Γ h hR ht
  suffices K : Gq 0 Γ ω L00 eI 0 [(0, .int a0), (1, .int a1), (2, .int a2)] [] M (m_X5_isWithin a0 a1 a2 M) from K (r, M') hm ht (c0 Γ)
  unfold m_X5_isWithin
  refine g_iload_n h 0 dX5_isWithin_0 rfl rfl ?_
  refine g_iload_n h 1 dX5_isWithin_1 rfl rfl ?_
  refine g_icmp_lt h 14 dX5_isWithin_2 (by decide) (fun hc1 => ?_) (fun hc1 => ?_)
  · skip
    refine g_iconst h 0 dX5_isWithin_14 (by decide) ?_
    exact g_iret hR (by decide) dX5_isWithin_15
  · skip
    refine g_iload_n h 0 dX5_isWithin_5 rfl rfl ?_
    refine g_iload_n h 2 dX5_isWithin_6 rfl rfl ?_
    refine g_icmp_gt h 14 dX5_isWithin_7 (by decide) (fun hc2 => ?_) (fun hc2 => ?_)
    · skip
      refine g_iconst h 0 dX5_isWithin_14 (by decide) ?_
      exact g_iret hR (by decide) dX5_isWithin_15
    · skip
      refine g_iconst h 1 dX5_isWithin_10 (by decide) ?_
      refine g_goto h (tgt := 15) dX5_isWithin_11 (by decide) ?_
      exact g_iret hR (by decide) dX5_isWithin_15
theorem n_X4_hasConker_4 : ∀ w ∈ wsX40, w ∈ wsX4_hasConker := by decide +kernel
set_option maxHeartbeats 4000000 in
set_option maxRecDepth 100000 in
theorem c_X4_hasConker (l : Launch) (ω : Wd) (k : Nat) (hk : kS k) (M0 : Mm) (T : Tm) (a1 : Int32) {r : Int32} {T' : Tm} (hm : m_X4_hasConker a1 T = some (r, T')) : MI l yX4_hasConker wsX4_hasConker ⟨1, 0, 0, 22⟩ ω LC [.ref (th ω k 0), .int a1] (uM M0 k T) r (uM M0 k T') := by
  refine met_i (cc := cX4_hasConker) (maxL := 2) (ty := .boolean) (by decide +kernel) rfl (Nat.le_of_ble_eq_true rfl) LC_nd ?_
  intro Γ h hR ht
  suffices K : Gq 0 Γ ω LC (uM M0 k) 0 [(0, .ref (th ω k 0)), (1, .int a1)] [] T (m_X4_hasConker a1 T) from K (r, T') hm ht (c0 Γ)
  unfold m_X4_hasConker
  refine g_iload_n h 1 dX4_hasConker_0 rfl rfl ?_
  refine g_iconst h 0 dX4_hasConker_1 (by decide) ?_
  refine g_aload_n h 0 dX4_hasConker_2 rfl rfl ?_
  refine g_getI h (v := T 0 10) (uMr M0 k _ _ _) (index := 42) (j := 10) (inS hk 0 (by decide)) (C := RX4) (T := TX4) (N := 13) rfl n_X4_hasConker_4 (by decide) rfl (by decide +kernel) dX4_hasConker_3 ?_
  refine g_ni (fun v1 => ?_)
  refine g_iconst h 1 dX4_hasConker_6 (by decide) ?_
  refine g_isub h dX4_hasConker_7 ?_
  refine g_callPN h (As := [.int a1, .int 0, .int (v1 - 1)]) (fun r t hG => c_X5_isWithin l ω M00 a1 0 (v1 - 1) hG) 3 rfl gX4_hasConker_X5_isWithin_n58 rfl (by decide +kernel) (by decide +kernel) (fun _ hz => hz) rfl rfl (by decide +kernel) (by decide) (st0 := _) rfl (Nat.le_of_ble_eq_true rfl) dX4_hasConker_8 (fun r2 => ?_)
  exact g_nret hR (fun _ => rfl) dX4_hasConker_11
theorem n_X4_pairError_4 : ∀ w ∈ wsX40, w ∈ wsX4_pairError := by decide +kernel
set_option maxHeartbeats 4000000 in
set_option maxRecDepth 100000 in
theorem b_X4_pairError_49 {Γ : Cx} {l : Launch} {ω : Wd} {M0 : Mm} {k : Nat} (hk : kS k) (h : CxOk Γ l ⟨2, 0, 0, 43⟩ 4 ω LC cX4_pairError yX4_pairError.cls wsX4_pairError) (hR : RetI Γ ω LC cX4_pairError .int) : ∀ (T : Tm), Gq 0 Γ ω LC (uM M0 k) 49 [] [] T (m_X4_pairError_49 T) := by
  intro T
  unfold m_X4_pairError_49
  refine g_bipush h (-4) dX4_pairError_49 (by decide) ?_
  refine g_goto h (tgt := 55) dX4_pairError_51 (by decide) ?_
  exact g_iret hR rfl dX4_pairError_55
set_option maxHeartbeats 4000000 in
set_option maxRecDepth 100000 in
theorem c_X4_pairError (l : Launch) (ω : Wd) (k : Nat) (hk : kS k) (M0 : Mm) (T : Tm) (a1 : Int32) (a2 : Int32) (a3 : Int32) {r : Int32} {T' : Tm} (hm : m_X4_pairError a1 a2 a3 T = some (r, T')) : MI l yX4_pairError wsX4_pairError ⟨2, 0, 0, 43⟩ ω LC [.ref (th ω k 0), .int a1, .int a2, .int a3] (uM M0 k T) r (uM M0 k T') := by
  refine met_i (cc := cX4_pairError) (maxL := 4) (ty := .int) (by decide +kernel) rfl (Nat.le_of_ble_eq_true rfl) LC_nd ?_
  intro Γ h hR ht
  suffices K : Gq 0 Γ ω LC (uM M0 k) 0 [(0, .ref (th ω k 0)), (1, .int a1), (2, .int a2), (3, .int a3)] [] T (m_X4_pairError a1 a2 a3 T) from K (r, T') hm ht (c0 Γ)
  unfold m_X4_pairError
  refine g_aload_n h 0 dX4_pairError_0 rfl rfl ?_
  refine g_iload_n h 1 dX4_pairError_1 rfl rfl ?_
  refine g_callI h (As := [.int a1]) (fun t => t) (fun r t hG => c_X4_hasConker l ω k hk M0 _ a1 hG) (inS hk 0 (by decide)) (C := RX4) (T := TX4) (N := 13) rfl 1 rfl gX4_pairError_X4_hasConker rfl rfl rfl (by decide +kernel) (by decide) (st0 := _) rfl (Nat.le_of_ble_eq_true rfl) dX4_pairError_2 (fun r1 T2 => ?_)
  refine g_if_eq h 16 dX4_pairError_5 (by decide) (fun hc3 => ?_) (fun hc3 => ?_)
  · skip
    refine g_iconst h (-1) dX4_pairError_16 (by decide) ?_
    exact g_iret hR rfl dX4_pairError_17
  · skip
    refine g_aload_n h 0 dX4_pairError_8 rfl rfl ?_
    refine g_iload_n h 2 dX4_pairError_9 rfl rfl ?_
    refine g_callI h (As := [.int a2]) (fun t => t) (fun r t hG => c_X4_hasConker l ω k hk M0 _ a2 hG) (inS hk 0 (by decide)) (C := RX4) (T := TX4) (N := 13) rfl 1 rfl gX4_pairError_X4_hasConker rfl rfl rfl (by decide +kernel) (by decide) (st0 := _) rfl (Nat.le_of_ble_eq_true rfl) dX4_pairError_10 (fun r4 T5 => ?_)
    refine g_if_ne h 18 dX4_pairError_13 (by decide) (fun hc6 => ?_) (fun hc6 => ?_)
    · skip
      refine g_iconst h (-1) dX4_pairError_16 (by decide) ?_
      exact g_iret hR rfl dX4_pairError_17
    · skip
      refine g_iload_n h 3 dX4_pairError_18 rfl rfl ?_
      refine g_if_ne h 25 dX4_pairError_19 (by decide) (fun hc7 => ?_) (fun hc7 => ?_)
      · skip
        refine g_bipush h (-2) dX4_pairError_22 (by decide) ?_
        exact g_iret hR rfl dX4_pairError_24
      · skip
        refine g_aload_n h 0 dX4_pairError_25 rfl rfl ?_
        refine g_getR h (index := 18) (j := 2) (inS hk 0 (by decide)) (C := RX4) (T := TX4) (N := 13) rfl n_X4_pairError_4 (by decide) rfl (by decide +kernel) dX4_pairError_26 ?_
        refine g_iload_n h 1 dX4_pairError_29 rfl rfl ?_
        refine g_iald h (v := T5 3 a1.toNatClampNeg) (uMr M0 k _ _ _) (inS hk 3 (by decide)) dX4_pairError_30 ?_
        refine g_ni (fun v8 => ?_)
        refine g_aload_n h 0 dX4_pairError_31 rfl rfl ?_
        refine g_getR h (index := 18) (j := 2) (inS hk 0 (by decide)) (C := RX4) (T := TX4) (N := 13) rfl n_X4_pairError_4 (by decide) rfl (by decide +kernel) dX4_pairError_32 ?_
        refine g_iload_n h 2 dX4_pairError_35 rfl rfl ?_
        refine g_iald h (v := T5 3 a2.toNatClampNeg) (uMr M0 k _ _ _) (inS hk 3 (by decide)) dX4_pairError_36 ?_
        refine g_ni (fun v9 => ?_)
        refine g_icmp_eq h 49 dX4_pairError_37 (by decide) (fun hc10 => ?_) (fun hc10 => ?_)
        · skip
          refine g_sub (lv' := []) [] rfl ?_
          exact b_X4_pairError_49 hk h hR _
        · skip
          refine g_aload_n h 0 dX4_pairError_40 rfl rfl ?_
          refine g_iload_n h 1 dX4_pairError_41 rfl rfl ?_
          refine g_iload_n h 2 dX4_pairError_42 rfl rfl ?_
          refine g_callI h (As := [.int a1, .int a2]) (fun t => t) (fun r t hG => c_X4_areInPlay l ω k hk M0 _ a1 a2 hG) (inS hk 0 (by decide)) (C := RX4) (T := TX4) (N := 13) rfl 2 rfl gX4_pairError_X4_areInPlay rfl rfl rfl (by decide +kernel) (by decide) (st0 := _) rfl (Nat.le_of_ble_eq_true rfl) dX4_pairError_43 (fun r11 T12 => ?_)
          refine g_if_ne h 54 dX4_pairError_46 (by decide) (fun hc13 => ?_) (fun hc13 => ?_)
          · skip
            refine g_sub (lv' := []) [] rfl ?_
            exact b_X4_pairError_49 hk h hR _
          · skip
            refine g_iconst h 0 dX4_pairError_54 (by decide) ?_
            exact g_iret hR rfl dX4_pairError_55
