/-! WALKS (written by wip/whole/gen.py): X6_run, X6_save, X6_share, X6_stamp, X6_strike, X6_thread, X6_undo, X6_winner -/
theorem n_X6_run_6 : ∀ w ∈ wsX60, w ∈ wsX6_run := by decide +kernel
set_option maxHeartbeats 4000000 in
set_option maxRecDepth 100000 in
theorem b_X6_run_97 {Γ : Cx} {l : Launch} {ω : Wd} {M0 : Mm}  (h : CxOk Γ l ⟨5, 0, 0, 110⟩ 6 ω LM cX6_run yX6_run.cls wsX6_run) (hR : RetI Γ ω LM cX6_run .int) (κ29 : Int32 → Int32 → Tm → Option (Int32 × Tm)) (hκ29 : ∀ (b2 : Int32) (b3 : Int32) (T : Tm), Gq Γ ω LM (uM M0 0) 29 [(0, .ref (th ω 0 0)), (2, .int b2), (3, .int b3)] [] T (κ29 b2 b3 T)) : ∀ (b2 : Int32) (s0 : Int32) (T : Tm), Gq Γ ω LM (uM M0 0) 97 [(0, .ref (th ω 0 0)), (2, .int b2)] [.int s0] T (m_X6_run_97 κ29 b2 s0 T) := by
  intro b2 s0 T
  unfold m_X6_run_97
  refine g_istore_n h rfl (lv' := [(3, .int s0), (0, .ref (th ω 0 0)), (2, .int b2)]) dX6_run_97 (by decide) [0, 1, 2] rfl ?_
  refine g_goto h (tgt := 29) dX6_run_98 (by decide) ?_
  refine g_sub (lv' := [(0, .ref (th ω 0 0)), (2, .int b2), (3, .int s0)]) [1, 2, 0] rfl ?_
  exact hκ29 _ _ _
set_option maxHeartbeats 4000000 in
set_option maxRecDepth 100000 in
theorem b_X6_run_96 {Γ : Cx} {l : Launch} {ω : Wd} {M0 : Mm}  (h : CxOk Γ l ⟨5, 0, 0, 110⟩ 6 ω LM cX6_run yX6_run.cls wsX6_run) (hR : RetI Γ ω LM cX6_run .int) (κ29 : Int32 → Int32 → Tm → Option (Int32 × Tm)) (hκ29 : ∀ (b2 : Int32) (b3 : Int32) (T : Tm), Gq Γ ω LM (uM M0 0) 29 [(0, .ref (th ω 0 0)), (2, .int b2), (3, .int b3)] [] T (κ29 b2 b3 T)) : ∀ (b2 : Int32) (T : Tm), Gq Γ ω LM (uM M0 0) 96 [(0, .ref (th ω 0 0)), (2, .int b2)] [] T (m_X6_run_96 κ29 b2 T) := by
  intro b2 T
  unfold m_X6_run_96
  refine g_iconst h 0 dX6_run_96 (by decide) ?_
  exact b_X6_run_97 h hR _ hκ29 _ _ _
set_option maxHeartbeats 4000000 in
set_option maxRecDepth 100000 in
theorem b_X6_run_68 {Γ : Cx} {l : Launch} {ω : Wd} {M0 : Mm}  (h : CxOk Γ l ⟨5, 0, 0, 110⟩ 6 ω LM cX6_run yX6_run.cls wsX6_run) (hR : RetI Γ ω LM cX6_run .int) (κ29 : Int32 → Int32 → Tm → Option (Int32 × Tm)) (hκ29 : ∀ (b2 : Int32) (b3 : Int32) (T : Tm), Gq Γ ω LM (uM M0 0) 29 [(0, .ref (th ω 0 0)), (2, .int b2), (3, .int b3)] [] T (κ29 b2 b3 T)) : ∀ (b2 : Int32) (b4 : Int32) (s0 : Int32) (T : Tm), Gq Γ ω LM (uM M0 0) 68 [(0, .ref (th ω 0 0)), (2, .int b2), (4, .int b4)] [.int s0] T (m_X6_run_68 κ29 b2 b4 s0 T) := by
  intro b2 b4 s0 T
  unfold m_X6_run_68
  refine g_istore h (lv' := [(5, .int s0), (0, .ref (th ω 0 0)), (2, .int b2), (4, .int b4)]) dX6_run_68 (by decide) [0, 1, 2, 3] rfl ?_
  refine g_iload_n h 2 dX6_run_70 rfl rfl ?_
  refine g_iload h 3 dX6_run_71 rfl ?_
  refine g_callP h (As := [.int b4]) (fun r t hG => c_X6_flag l ω M00 b4 hG) 1 rfl gX6_run_X6_flag rfl rfl rfl (by decide +kernel) (by decide) (st0 := _) rfl (Nat.le_of_ble_eq_true rfl) dX6_run_73 (fun r1 => ?_)
  refine g_iadd h dX6_run_76 ?_
  refine g_istore_n h rfl (lv' := [(2, .int (b2 + r1)), (5, .int s0), (0, .ref (th ω 0 0)), (4, .int b4)]) dX6_run_77 (by decide) [0, 1, 2, 3] rfl ?_
  refine g_iload h 3 dX6_run_78 rfl ?_
  refine g_if_eq h 96 dX6_run_80 (by decide) (fun hc2 => ?_) (fun hc2 => ?_)
  · skip
    refine g_sub (lv' := [(0, .ref (th ω 0 0)), (2, .int (b2 + r1))]) [2, 0] rfl ?_
    exact b_X6_run_96 h hR _ hκ29 _ _
  · skip
    refine g_aload_n h 2 dX6_run_83 rfl rfl ?_
    refine g_bipush h 44 dX6_run_84 (by decide) ?_
    refine g_callI h (As := [.int 44]) (fun t => t) (fun r t hG => c_X6_takes l ω M0 _ 44 hG) iM_0_0 (C := RX6) (T := TX6) (N := 13) rfl 1 rfl gX6_run_X6_takes rfl rfl rfl (by decide +kernel) (by decide) (st0 := _) rfl (Nat.le_of_ble_eq_true rfl) dX6_run_86 (fun r3 T4 => ?_)
    refine g_if_eq h 96 dX6_run_89 (by decide) (fun hc5 => ?_) (fun hc5 => ?_)
    · skip
      refine g_sub (lv' := [(0, .ref (th ω 0 0)), (2, .int (b2 + r1))]) [2, 0] rfl ?_
      exact b_X6_run_96 h hR _ hκ29 _ _
    · skip
      refine g_iconst h 1 dX6_run_92 (by decide) ?_
      refine g_goto h (tgt := 97) dX6_run_93 (by decide) ?_
      refine g_sub (lv' := [(0, .ref (th ω 0 0)), (2, .int (b2 + r1))]) [2, 0] rfl ?_
      exact b_X6_run_97 h hR _ hκ29 _ _ _
set_option maxHeartbeats 4000000 in
set_option maxRecDepth 100000 in
theorem b_X6_run_52 {Γ : Cx} {l : Launch} {ω : Wd} {M0 : Mm}  (h : CxOk Γ l ⟨5, 0, 0, 110⟩ 6 ω LM cX6_run yX6_run.cls wsX6_run) (hR : RetI Γ ω LM cX6_run .int) (κ29 : Int32 → Int32 → Tm → Option (Int32 × Tm)) (hκ29 : ∀ (b2 : Int32) (b3 : Int32) (T : Tm), Gq Γ ω LM (uM M0 0) 29 [(0, .ref (th ω 0 0)), (2, .int b2), (3, .int b3)] [] T (κ29 b2 b3 T)) : ∀ (b2 : Int32) (s0 : Int32) (T : Tm), Gq Γ ω LM (uM M0 0) 52 [(0, .ref (th ω 0 0)), (2, .int b2)] [.int s0] T (m_X6_run_52 κ29 b2 s0 T) := by
  intro b2 s0 T
  unfold m_X6_run_52
  refine g_istore h (lv' := [(4, .int s0), (0, .ref (th ω 0 0)), (2, .int b2)]) dX6_run_52 (by decide) [0, 1, 2] rfl ?_
  refine g_iload h 0 dX6_run_54 rfl ?_
  refine g_if_eq h 66 dX6_run_56 (by decide) (fun hc1 => ?_) (fun hc1 => ?_)
  · skip
    refine g_bipush h (-5) dX6_run_66 (by decide) ?_
    refine g_sub (lv' := [(0, .ref (th ω 0 0)), (2, .int b2), (4, .int s0)]) [1, 2, 0] rfl ?_
    exact b_X6_run_68 h hR _ hκ29 _ _ _ _
  · skip
    refine g_aload_n h 1 dX6_run_59 rfl rfl ?_
    refine g_callI h (As := []) (fun t => t) (fun r t hG => c_X6_does l ω M0 _ hG) iM_0_0 (C := RX6) (T := TX6) (N := 13) rfl 0 rfl gX6_run_X6_does rfl rfl rfl (by decide +kernel) (by decide) (st0 := _) rfl (Nat.le_of_ble_eq_true rfl) dX6_run_60 (fun r2 T3 => ?_)
    refine g_goto h (tgt := 68) dX6_run_63 (by decide) ?_
    refine g_sub (lv' := [(0, .ref (th ω 0 0)), (2, .int b2), (4, .int s0)]) [1, 2, 0] rfl ?_
    exact b_X6_run_68 h hR _ hκ29 _ _ _ _
set_option maxHeartbeats 4000000 in
set_option maxRecDepth 100000 in
theorem b_X6_run_51 {Γ : Cx} {l : Launch} {ω : Wd} {M0 : Mm}  (h : CxOk Γ l ⟨5, 0, 0, 110⟩ 6 ω LM cX6_run yX6_run.cls wsX6_run) (hR : RetI Γ ω LM cX6_run .int) (κ29 : Int32 → Int32 → Tm → Option (Int32 × Tm)) (hκ29 : ∀ (b2 : Int32) (b3 : Int32) (T : Tm), Gq Γ ω LM (uM M0 0) 29 [(0, .ref (th ω 0 0)), (2, .int b2), (3, .int b3)] [] T (κ29 b2 b3 T)) : ∀ (b2 : Int32) (T : Tm), Gq Γ ω LM (uM M0 0) 51 [(0, .ref (th ω 0 0)), (2, .int b2)] [] T (m_X6_run_51 κ29 b2 T) := by
  intro b2 T
  unfold m_X6_run_51
  refine g_iconst h 0 dX6_run_51 (by decide) ?_
  exact b_X6_run_52 h hR _ hκ29 _ _ _
set_option maxHeartbeats 4000000 in
set_option maxRecDepth 100000 in
theorem b_X6_run_29 {Γ : Cx} {l : Launch} {ω : Wd} {M0 : Mm}  (h : CxOk Γ l ⟨5, 0, 0, 110⟩ 6 ω LM cX6_run yX6_run.cls wsX6_run) (hR : RetI Γ ω LM cX6_run .int) : ∀ (n : Nat) (b2 : Int32) (b3 : Int32) (T : Tm), Gq Γ ω LM (uM M0 0) 29 [(0, .ref (th ω 0 0)), (2, .int b2), (3, .int b3)] [] T (m_X6_run_29 n b2 b3 T) := by
  intro n
  induction n with
  | zero =>
    intro b2 b3 T
    rw [m_X6_run_29.eq_1]
    exact g_none
  | succ n ih =>
    intro b2 b3 T
    rw [m_X6_run_29.eq_2]
    refine g_iload_n h 2 dX6_run_29 rfl rfl ?_
    refine g_if_eq h 101 dX6_run_30 (by decide) (fun hc1 => ?_) (fun hc1 => ?_)
    · skip
      refine g_iload_n h 1 dX6_run_101 rfl rfl ?_
      exact g_iret hR rfl dX6_run_102
    · skip
      refine g_aload_n h 0 dX6_run_33 rfl rfl ?_
      refine g_callI h (As := []) (fun t => t) (fun r t hG => c_X6_readsOrder l ω M0 _ hG) iM_0_0 (C := RX6) (T := TX6) (N := 13) rfl 0 rfl gX6_run_X6_readsOrder rfl rfl rfl (by decide +kernel) (by decide) (st0 := _) rfl (Nat.le_of_ble_eq_true rfl) dX6_run_34 (fun r2 T3 => ?_)
      refine g_if_eq h 51 dX6_run_37 (by decide) (fun hc4 => ?_) (fun hc4 => ?_)
      · skip
        refine g_sub (lv' := [(0, .ref (th ω 0 0)), (2, .int b2)]) [0, 1] rfl ?_
        exact b_X6_run_51 h hR _ ih _ _
      · skip
        refine g_aload_n h 0 dX6_run_40 rfl rfl ?_
        refine g_callI h (As := []) (fun t => t) (fun r t hG => c_X6_orderError l ω M0 _ hG) iM_0_0 (C := RX6) (T := TX6) (N := 13) rfl 0 rfl gX6_run_X6_orderError rfl rfl rfl (by decide +kernel) (by decide) (st0 := _) rfl (Nat.le_of_ble_eq_true rfl) dX6_run_41 (fun r5 T6 => ?_)
        refine g_if_ne h 51 dX6_run_44 (by decide) (fun hc7 => ?_) (fun hc7 => ?_)
        · skip
          refine g_iconst h 1 dX6_run_47 (by decide) ?_
          refine g_goto h (tgt := 52) dX6_run_48 (by decide) ?_
          refine g_sub (lv' := [(0, .ref (th ω 0 0)), (2, .int b2)]) [0, 1] rfl ?_
          exact b_X6_run_52 h hR _ ih _ _ _
        · skip
          refine g_sub (lv' := [(0, .ref (th ω 0 0)), (2, .int b2)]) [0, 1] rfl ?_
          exact b_X6_run_51 h hR _ ih _ _
set_option maxHeartbeats 4000000 in
set_option maxRecDepth 100000 in
theorem c_X6_run (l : Launch) (ω : Wd)  (M0 : Mm) (T : Tm) {r : Int32} {T' : Tm} (hm : m_X6_run T = some (r, T')) : MI l yX6_run wsX6_run ⟨5, 0, 0, 110⟩ ω LM [.ref (th ω 0 0)] (uM M0 0 T) r (uM M0 0 T') := by
  refine met_i (cc := cX6_run) (maxL := 6) (ty := .int) (by decide +kernel) rfl (Nat.le_of_ble_eq_true rfl) LM_nd ?_
  intro Γ h hR ht
  suffices K : Gq Γ ω LM (uM M0 0) 0 [(0, .ref (th ω 0 0))] [] T (m_X6_run T) from K (r, T') hm ht
  unfold m_X6_run
  refine g_aload_n h 0 dX6_run_0 rfl rfl ?_
  refine g_callI h (As := []) (fun t => t) (fun r t hG => c_X6_fault l ω M0 _ hG) iM_0_0 (C := RX6) (T := TX6) (N := 13) rfl 0 rfl gX6_run_X6_fault rfl rfl rfl (by decide +kernel) (by decide) (st0 := _) rfl (Nat.le_of_ble_eq_true rfl) dX6_run_1 (fun r1 T2 => ?_)
  refine g_istore_n h rfl (lv' := [(1, .int r1), (0, .ref (th ω 0 0))]) dX6_run_4 (by decide) [0, 1] rfl ?_
  refine g_iload_n h 0 dX6_run_5 rfl rfl ?_
  refine g_bipush h (-5) dX6_run_6 (by decide) ?_
  refine g_icmp_eq h 16 dX6_run_8 (by decide) (fun hc3 => ?_) (fun hc3 => ?_)
  · skip
    refine g_aload_n h 1 dX6_run_16 rfl rfl ?_
    refine g_callV h (As := []) (fun t => t) (fun r t hG => c_X6_records l ω M0 _ hG) iM_0_0 (C := RX6) (T := TX6) (N := 13) rfl 0 rfl gX6_run_X6_records rfl rfl rfl (by decide +kernel) (by decide) (st0 := _) rfl (Nat.le_of_ble_eq_true rfl) dX6_run_17 (fun r4 T5 => ?_)
    refine g_aload_n h 1 dX6_run_20 rfl rfl ?_
    refine g_iconst h 0 dX6_run_21 (by decide) ?_
    refine g_putI h (x' := wT T5 0 8 0) (wM_uM M0 0 _ _ _ _).symm (index := 110) (j := 8) iM_0_0 (C := RX6) (T := TX6) (N := 13) rfl n_X6_run_6 tyX6_ok nmX6 (by decide) rfl (by decide +kernel) rfl (ty := .int) (by decide +kernel) rfl rfl dX6_run_22 ?_
    refine g_nm (fun T6 => ?_)
    refine g_iconst h 0 dX6_run_25 (by decide) ?_
    refine g_istore_n h rfl (lv' := [(2, .int 0), (1, .int r1), (0, .ref (th ω 0 0))]) dX6_run_26 (by decide) [0, 1, 2] rfl ?_
    refine g_iconst h 1 dX6_run_27 (by decide) ?_
    refine g_istore_n h rfl (lv' := [(3, .int 1), (2, .int 0), (1, .int r1), (0, .ref (th ω 0 0))]) dX6_run_28 (by decide) [0, 1, 2, 3] rfl ?_
    refine g_sub (lv' := [(0, .ref (th ω 0 0)), (2, .int 0), (3, .int 1)]) [3, 1, 0] rfl ?_
    exact b_X6_run_29 h hR fu _ _ _
  · skip
    refine g_bipush h (-100) dX6_run_11 (by decide) ?_
    refine g_iload_n h 0 dX6_run_13 rfl rfl ?_
    refine g_isub h dX6_run_14 ?_
    exact g_iret hR rfl dX6_run_15
theorem n_X6_save_6 : ∀ w ∈ wsX60, w ∈ wsX6_save := by decide +kernel
set_option maxHeartbeats 4000000 in
set_option maxRecDepth 100000 in
theorem c_X6_save (l : Launch) (ω : Wd)  (M0 : Mm) (T : Tm) {r : Int32} {T' : Tm} (hm : m_X6_save T = some (r, T')) : MI l yX6_save wsX6_save ⟨2, 0, 0, 46⟩ ω LM [.ref (th ω 0 0)] (uM M0 0 T) r (uM M0 0 T') := by
  refine met_i (cc := cX6_save) (maxL := 1) (ty := .int) (by decide +kernel) rfl (Nat.le_of_ble_eq_true rfl) LM_nd ?_
  intro Γ h hR ht
  suffices K : Gq Γ ω LM (uM M0 0) 0 [(0, .ref (th ω 0 0))] [] T (m_X6_save T) from K (r, T') hm ht
  unfold m_X6_save
  refine g_aload_n h 0 dX6_save_0 rfl rfl ?_
  refine g_iconst h 0 dX6_save_1 (by decide) ?_
  refine g_bipush h 6 dX6_save_2 (by decide) ?_
  refine g_callV h (As := [.int 0, .int 6]) (fun t => t) (fun r t hG => c_X6_copies l ω M0 _ 0 6 hG) iM_0_0 (C := RX6) (T := TX6) (N := 13) rfl 2 rfl gX6_save_X6_copies rfl rfl rfl (by decide +kernel) (by decide) (st0 := _) rfl (Nat.le_of_ble_eq_true rfl) dX6_save_4 (fun r1 T2 => ?_)
  refine g_aload_n h 0 dX6_save_7 rfl rfl ?_
  refine g_iconst h 1 dX6_save_8 (by decide) ?_
  refine g_putI h (x' := wT T2 0 2 1) (wM_uM M0 0 _ _ _ _).symm (index := 148) (j := 2) iM_0_0 (C := RX6) (T := TX6) (N := 13) rfl n_X6_save_6 tyX6_ok nmX6 (by decide) rfl (by decide +kernel) rfl (ty := .boolean) (by decide +kernel) rfl (by decide) dX6_save_9 ?_
  refine g_nm (fun T3 => ?_)
  refine g_aload_n h 0 dX6_save_12 rfl rfl ?_
  refine g_bipush h (-5) dX6_save_13 (by decide) ?_
  refine g_iconst h 0 dX6_save_15 (by decide) ?_
  refine g_callI h (As := [.int (-5), .int 0]) (fun t => t) (fun r t hG => c_X6_conkers l ω M0 _ (-5) 0 hG) iM_0_0 (C := RX6) (T := TX6) (N := 13) rfl 2 rfl gX6_save_X6_conkers rfl rfl rfl (by decide +kernel) (by decide) (st0 := _) rfl (Nat.le_of_ble_eq_true rfl) dX6_save_16 (fun r4 T5 => ?_)
  exact g_iret hR rfl dX6_save_19
set_option maxHeartbeats 4000000 in
set_option maxRecDepth 100000 in
theorem b_X6_share_18 {Γ : Cx} {l : Launch} {ω : Wd} {M0 : Mm}  (h : CxOk Γ l ⟨2, 0, 0, 45⟩ 3 ω LM cX6_share yX6_share.cls wsX6_share) (hR : RetF Γ ω LM cX6_share) : ∀ (T : Tm), Gq Γ ω LM (uM M0 0) 18 [] [] T (m_X6_share_18 T) := by
  intro T
  unfold m_X6_share_18
  refine g_fconst0 h dX6_share_18 ?_
  refine g_goto h (tgt := 31) dX6_share_19 (by decide) ?_
  exact g_fret hR dX6_share_31
set_option maxHeartbeats 4000000 in
set_option maxRecDepth 100000 in
theorem c_X6_share (l : Launch) (ω : Wd)  (M0 : Mm) (T : Tm) (a1 : Int32) {r : Int32} {T' : Tm} (hm : m_X6_share a1 T = some (r, T')) : MF l yX6_share wsX6_share ⟨2, 0, 0, 45⟩ ω LM [.ref (th ω 0 0), .int a1] (uM M0 0 T) r (uM M0 0 T') := by
  refine met_f (cc := cX6_share) (maxL := 3) (r := r) (by decide +kernel) rfl (Nat.le_of_ble_eq_true rfl) LM_nd ?_
  intro Γ h hR ht
  suffices K : Gq Γ ω LM (uM M0 0) 0 [(0, .ref (th ω 0 0)), (1, .int a1)] [] T (m_X6_share a1 T) from K (r, T') hm ht
  unfold m_X6_share
  refine g_aload_n h 0 dX6_share_0 rfl rfl ?_
  refine g_bipush h (-5) dX6_share_1 (by decide) ?_
  refine g_callI h (As := [.int (-5)]) (fun t => t) (fun r t hG => c_X6_victories l ω M0 _ (-5) hG) iM_0_0 (C := RX6) (T := TX6) (N := 13) rfl 1 rfl gX6_share_X6_victories rfl rfl rfl (by decide +kernel) (by decide) (st0 := _) rfl (Nat.le_of_ble_eq_true rfl) dX6_share_3 (fun r1 T2 => ?_)
  refine g_istore_n h rfl (lv' := [(2, .int r1), (0, .ref (th ω 0 0)), (1, .int a1)]) dX6_share_6 (by decide) [0, 1, 2] rfl ?_
  refine g_iload_n h 2 dX6_share_7 rfl rfl ?_
  refine g_callP h (As := [.int a1]) (fun r t hG => c_X6_isPlayer l ω M00 a1 hG) 1 rfl gX6_share_X6_isPlayer rfl rfl rfl (by decide +kernel) (by decide) (st0 := _) rfl (Nat.le_of_ble_eq_true rfl) dX6_share_8 (fun r3 => ?_)
  refine g_if_eq h 18 dX6_share_11 (by decide) (fun hc4 => ?_) (fun hc4 => ?_)
  · skip
    refine g_sub (lv' := []) [] rfl ?_
    exact b_X6_share_18 h hR _
  · skip
    refine g_iload_n h 0 dX6_share_14 rfl rfl ?_
    refine g_if_ne h 22 dX6_share_15 (by decide) (fun hc5 => ?_) (fun hc5 => ?_)
    · skip
      refine g_sub (lv' := []) [] rfl ?_
      exact b_X6_share_18 h hR _
    · skip
      refine g_aload_n h 1 dX6_share_22 rfl rfl ?_
      refine g_iload_n h 2 dX6_share_23 rfl rfl ?_
      refine g_callI h (As := [.int a1]) (fun t => t) (fun r t hG => c_X6_victories l ω M0 _ a1 hG) iM_0_0 (C := RX6) (T := TX6) (N := 13) rfl 1 rfl gX6_share_X6_victories rfl rfl rfl (by decide +kernel) (by decide) (st0 := _) rfl (Nat.le_of_ble_eq_true rfl) dX6_share_24 (fun r6 T7 => ?_)
      refine g_i2f h dX6_share_27 ?_
      refine g_iload_n h 0 dX6_share_28 rfl rfl ?_
      refine g_i2f h dX6_share_29 ?_
      refine g_fdiv h dX6_share_30 ?_
      exact g_fret hR dX6_share_31
set_option maxHeartbeats 4000000 in
set_option maxRecDepth 100000 in
theorem c_X6_stamp (l : Launch) (ω : Wd)  (M0 : Mm) (T : Tm) (a1 : Int32) {r : Int32} {T' : Tm} (hm : m_X6_stamp a1 T = some (r, T')) : MI l yX6_stamp wsX6_stamp ⟨3, 0, 0, 64⟩ ω LM [.ref (th ω 0 0), .int a1] (uM M0 0 T) r (uM M0 0 T') := by
  refine met_i (cc := cX6_stamp) (maxL := 3) (ty := .int) (by decide +kernel) rfl (Nat.le_of_ble_eq_true rfl) LM_nd ?_
  intro Γ h hR ht
  suffices K : Gq Γ ω LM (uM M0 0) 0 [(0, .ref (th ω 0 0)), (1, .int a1)] [] T (m_X6_stamp a1 T) from K (r, T') hm ht
  unfold m_X6_stamp
  refine g_aload_n h 0 dX6_stamp_0 rfl rfl ?_
  refine g_iload_n h 1 dX6_stamp_1 rfl rfl ?_
  refine g_callI h (As := [.int a1]) (fun t => t) (fun r t hG => c_X6_stampError l ω M0 _ a1 hG) iM_0_0 (C := RX6) (T := TX6) (N := 13) rfl 1 rfl gX6_stamp_X6_stampError rfl rfl rfl (by decide +kernel) (by decide) (st0 := _) rfl (Nat.le_of_ble_eq_true rfl) dX6_stamp_2 (fun r1 T2 => ?_)
  refine g_istore_n h rfl (lv' := [(2, .int r1), (0, .ref (th ω 0 0)), (1, .int a1)]) dX6_stamp_5 (by decide) [0, 1, 2] rfl ?_
  refine g_iload_n h 0 dX6_stamp_6 rfl rfl ?_
  refine g_if_eq h 12 dX6_stamp_7 (by decide) (fun hc3 => ?_) (fun hc3 => ?_)
  · skip
    refine g_aload_n h 1 dX6_stamp_12 rfl rfl ?_
    refine g_callV h (As := []) (fun t => t) (fun r t hG => c_X6_records l ω M0 _ hG) iM_0_0 (C := RX6) (T := TX6) (N := 13) rfl 0 rfl gX6_stamp_X6_records rfl rfl rfl (by decide +kernel) (by decide) (st0 := _) rfl (Nat.le_of_ble_eq_true rfl) dX6_stamp_13 (fun r4 T5 => ?_)
    refine g_aload_n h 1 dX6_stamp_16 rfl rfl ?_
    refine g_iload_n h 2 dX6_stamp_17 rfl rfl ?_
    refine g_callI h (As := [.int a1]) (fun t => t) (fun r t hG => c_X6_stamps l ω M0 _ a1 hG) iM_0_0 (C := RX6) (T := TX6) (N := 13) rfl 1 rfl gX6_stamp_X6_stamps rfl rfl rfl (by decide +kernel) (by decide) (st0 := _) rfl (Nat.le_of_ble_eq_true rfl) dX6_stamp_18 (fun r6 T7 => ?_)
    exact g_iret hR rfl dX6_stamp_21
  · skip
    refine g_iload_n h 0 dX6_stamp_10 rfl rfl ?_
    exact g_iret hR rfl dX6_stamp_11
set_option maxHeartbeats 4000000 in
set_option maxRecDepth 100000 in
theorem c_X6_strike (l : Launch) (ω : Wd)  (M0 : Mm) (T : Tm) (a1 : Int32) (a2 : Int32) (a3 : Int32) {r : Int32} {T' : Tm} (hm : m_X6_strike a1 a2 a3 T = some (r, T')) : MI l yX6_strike wsX6_strike ⟨4, 0, 0, 90⟩ ω LM [.ref (th ω 0 0), .int a1, .int a2, .int a3] (uM M0 0 T) r (uM M0 0 T') := by
  refine met_i (cc := cX6_strike) (maxL := 5) (ty := .int) (by decide +kernel) rfl (Nat.le_of_ble_eq_true rfl) LM_nd ?_
  intro Γ h hR ht
  suffices K : Gq Γ ω LM (uM M0 0) 0 [(0, .ref (th ω 0 0)), (1, .int a1), (2, .int a2), (3, .int a3)] [] T (m_X6_strike a1 a2 a3 T) from K (r, T') hm ht
  unfold m_X6_strike
  refine g_aload_n h 0 dX6_strike_0 rfl rfl ?_
  refine g_iload_n h 1 dX6_strike_1 rfl rfl ?_
  refine g_iload_n h 2 dX6_strike_2 rfl rfl ?_
  refine g_iload_n h 3 dX6_strike_3 rfl rfl ?_
  refine g_callI h (As := [.int a1, .int a2, .int a3]) (fun t => t) (fun r t hG => c_X6_strikeError l ω M0 _ a1 a2 a3 hG) iM_0_0 (C := RX6) (T := TX6) (N := 13) rfl 3 rfl gX6_strike_X6_strikeError rfl rfl rfl (by decide +kernel) (by decide) (st0 := _) rfl (Nat.le_of_ble_eq_true rfl) dX6_strike_4 (fun r1 T2 => ?_)
  refine g_istore h (lv' := [(4, .int r1), (0, .ref (th ω 0 0)), (1, .int a1), (2, .int a2), (3, .int a3)]) dX6_strike_7 (by decide) [0, 1, 2, 3, 4] rfl ?_
  refine g_iload h 0 dX6_strike_9 rfl ?_
  refine g_if_eq h 17 dX6_strike_11 (by decide) (fun hc3 => ?_) (fun hc3 => ?_)
  · skip
    refine g_aload_n h 1 dX6_strike_17 rfl rfl ?_
    refine g_callV h (As := []) (fun t => t) (fun r t hG => c_X6_records l ω M0 _ hG) iM_0_0 (C := RX6) (T := TX6) (N := 13) rfl 0 rfl gX6_strike_X6_records rfl rfl rfl (by decide +kernel) (by decide) (st0 := _) rfl (Nat.le_of_ble_eq_true rfl) dX6_strike_18 (fun r4 T5 => ?_)
    refine g_aload_n h 1 dX6_strike_21 rfl rfl ?_
    refine g_iconst h 0 dX6_strike_22 (by decide) ?_
    refine g_iload_n h 2 dX6_strike_23 rfl rfl ?_
    refine g_iload_n h 3 dX6_strike_24 rfl rfl ?_
    refine g_iload_n h 4 dX6_strike_25 rfl rfl ?_
    refine g_callI h (As := [.int 0, .int a1, .int a2, .int a3]) (fun t => t) (fun r t hG => c_X6_strikes l ω M0 _ 0 a1 a2 a3 hG) iM_0_0 (C := RX6) (T := TX6) (N := 13) rfl 4 rfl gX6_strike_X6_strikes rfl rfl rfl (by decide +kernel) (by decide) (st0 := _) rfl (Nat.le_of_ble_eq_true rfl) dX6_strike_26 (fun r6 T7 => ?_)
    exact g_iret hR rfl dX6_strike_29
  · skip
    refine g_iload h 0 dX6_strike_14 rfl ?_
    exact g_iret hR rfl dX6_strike_16
theorem n_X6_thread_6 : ∀ w ∈ wsX60, w ∈ wsX6_thread := by decide +kernel
set_option maxHeartbeats 4000000 in
set_option maxRecDepth 100000 in
theorem b_X6_thread_123 {Γ : Cx} {l : Launch} {ω : Wd} {M0 : Mm}  (h : CxOk Γ l ⟨2, 0, 0, 44⟩ 5 ω LM cX6_thread yX6_thread.cls wsX6_thread) (hR : RetI Γ ω LM cX6_thread .int) (κ70 : Int32 → Int32 → Int32 → Int32 → Tm → Option (Int32 × Tm)) (hκ70 : ∀ (b1 : Int32) (b2 : Int32) (b3 : Int32) (b4 : Int32) (T : Tm), Gq Γ ω LM (uM M0 0) 70 [(0, .ref (th ω 0 0)), (1, .int b1), (2, .int b2), (3, .int b3), (4, .int b4)] [] T (κ70 b1 b2 b3 b4 T)) : ∀ (b1 : Int32) (b2 : Int32) (b3 : Int32) (b4 : Int32) (s1 : Int32) (s2 : Int32) (T : Tm), Gq Γ ω LM (uM M0 0) 123 [(0, .ref (th ω 0 0)), (1, .int b1), (2, .int b2), (3, .int b3), (4, .int b4)] [.int s2, .int s1, .ref (th ω 0 1)] T (m_X6_thread_123 κ70 b1 b2 b3 b4 s1 s2 T) := by
  intro b1 b2 b3 b4 s1 s2 T
  unfold m_X6_thread_123
  refine g_iast h (x' := wT T 1 s1.toNatClampNeg s2) (wM_uM M0 0 _ _ _ _).symm iM_0_1 dX6_thread_123 ?_
  refine g_nm (fun T1 => ?_)
  refine g_iinc h (b4 + 1) (lv' := [(4, .int (b4 + 1)), (0, .ref (th ω 0 0)), (1, .int b1), (2, .int b2), (3, .int b3)]) dX6_thread_124 4 rfl (congrArg (fun z => b4 + z) (by decide)) (by decide) [0, 1, 2, 3, 4] rfl ?_
  refine g_goto h (tgt := 70) dX6_thread_127 (by decide) ?_
  refine g_sub (lv' := [(0, .ref (th ω 0 0)), (1, .int b1), (2, .int b2), (3, .int b3), (4, .int (b4 + 1))]) [1, 2, 3, 4, 0] rfl ?_
  exact hκ70 _ _ _ _ _
set_option maxHeartbeats 4000000 in
set_option maxRecDepth 100000 in
theorem b_X6_thread_117 {Γ : Cx} {l : Launch} {ω : Wd} {M0 : Mm}  (h : CxOk Γ l ⟨2, 0, 0, 44⟩ 5 ω LM cX6_thread yX6_thread.cls wsX6_thread) (hR : RetI Γ ω LM cX6_thread .int) (κ70 : Int32 → Int32 → Int32 → Int32 → Tm → Option (Int32 × Tm)) (hκ70 : ∀ (b1 : Int32) (b2 : Int32) (b3 : Int32) (b4 : Int32) (T : Tm), Gq Γ ω LM (uM M0 0) 70 [(0, .ref (th ω 0 0)), (1, .int b1), (2, .int b2), (3, .int b3), (4, .int b4)] [] T (κ70 b1 b2 b3 b4 T)) : ∀ (b1 : Int32) (b2 : Int32) (b3 : Int32) (b4 : Int32) (s1 : Int32) (T : Tm), Gq Γ ω LM (uM M0 0) 117 [(0, .ref (th ω 0 0)), (1, .int b1), (2, .int b2), (3, .int b3), (4, .int b4)] [.int s1, .ref (th ω 0 1)] T (m_X6_thread_117 κ70 b1 b2 b3 b4 s1 T) := by
  intro b1 b2 b3 b4 s1 T
  unfold m_X6_thread_117
  refine g_bipush h (-5) dX6_thread_117 (by decide) ?_
  refine g_goto h (tgt := 123) dX6_thread_119 (by decide) ?_
  exact b_X6_thread_123 h hR _ hκ70 _ _ _ _ _ _ _
set_option maxHeartbeats 4000000 in
set_option maxRecDepth 100000 in
theorem b_X6_thread_70 {Γ : Cx} {l : Launch} {ω : Wd} {M0 : Mm}  (h : CxOk Γ l ⟨2, 0, 0, 44⟩ 5 ω LM cX6_thread yX6_thread.cls wsX6_thread) (hR : RetI Γ ω LM cX6_thread .int) : ∀ (n : Nat) (b1 : Int32) (b2 : Int32) (b3 : Int32) (b4 : Int32) (T : Tm), Gq Γ ω LM (uM M0 0) 70 [(0, .ref (th ω 0 0)), (1, .int b1), (2, .int b2), (3, .int b3), (4, .int b4)] [] T (m_X6_thread_70 n b1 b2 b3 b4 T) := by
  intro n
  induction n with
  | zero =>
    intro b1 b2 b3 b4 T
    rw [m_X6_thread_70.eq_1]
    exact g_none
  | succ n ih =>
    intro b1 b2 b3 b4 T
    rw [m_X6_thread_70.eq_2]
    refine g_iload h 4 dX6_thread_70 rfl ?_
    refine g_bipush h 8 dX6_thread_72 (by decide) ?_
    refine g_icmp_ge h 130 dX6_thread_74 (by decide) (fun hc1 => ?_) (fun hc1 => ?_)
    · skip
      refine g_aload_n h 0 dX6_thread_130 rfl rfl ?_
      refine g_getR h (index := 7) (j := 0) iM_0_0 (C := RX6) (T := TX6) (N := 13) rfl n_X6_thread_6 (by decide) rfl (by decide +kernel) dX6_thread_131 ?_
      refine g_iconst h 4 dX6_thread_134 (by decide) ?_
      refine g_iconst h 2 dX6_thread_135 (by decide) ?_
      refine g_iload_n h 1 dX6_thread_136 rfl rfl ?_
      refine g_imul h dX6_thread_137 ?_
      refine g_iadd h dX6_thread_138 ?_
      refine g_dup2 h dX6_thread_139 rfl rfl ?_
      refine g_iald h (v := T 1 ((4 + (2 * b1)).toNatClampNeg)) (uMr M0 0 _ _ _) iM_0_1 dX6_thread_140 ?_
      refine g_ni (fun v2 => ?_)
      refine g_iconst h 1 dX6_thread_141 (by decide) ?_
      refine g_isub h dX6_thread_142 ?_
      refine g_iast h (x' := wT T 1 ((4 + (2 * b1)).toNatClampNeg) (v2 - 1)) (wM_uM M0 0 _ _ _ _).symm iM_0_1 dX6_thread_143 ?_
      refine g_nm (fun T3 => ?_)
      refine g_aload_n h 0 dX6_thread_144 rfl rfl ?_
      refine g_getR h (index := 7) (j := 0) iM_0_0 (C := RX6) (T := TX6) (N := 13) rfl n_X6_thread_6 (by decide) rfl (by decide +kernel) dX6_thread_145 ?_
      refine g_iconst h 0 dX6_thread_148 (by decide) ?_
      refine g_dup2 h dX6_thread_149 rfl rfl ?_
      refine g_iald h (v := T3 1 ((0 : Int32).toNatClampNeg)) (uMr M0 0 _ _ _) iM_0_1 dX6_thread_150 ?_
      refine g_ni (fun v4 => ?_)
      refine g_iconst h 1 dX6_thread_151 (by decide) ?_
      refine g_iadd h dX6_thread_152 ?_
      refine g_iast h (x' := wT T3 1 ((0 : Int32).toNatClampNeg) (v4 + 1)) (wM_uM M0 0 _ _ _ _).symm iM_0_1 dX6_thread_153 ?_
      refine g_nm (fun T5 => ?_)
      refine g_aload_n h 0 dX6_thread_154 rfl rfl ?_
      refine g_getR h (index := 7) (j := 0) iM_0_0 (C := RX6) (T := TX6) (N := 13) rfl n_X6_thread_6 (by decide) rfl (by decide +kernel) dX6_thread_155 ?_
      refine g_iconst h 0 dX6_thread_158 (by decide) ?_
      refine g_iald h (v := T5 1 ((0 : Int32).toNatClampNeg)) (uMr M0 0 _ _ _) iM_0_1 dX6_thread_159 ?_
      refine g_ni (fun v6 => ?_)
      refine g_iconst h 1 dX6_thread_160 (by decide) ?_
      refine g_isub h dX6_thread_161 ?_
      exact g_iret hR rfl dX6_thread_162
    · skip
      refine g_aload_n h 0 dX6_thread_77 rfl rfl ?_
      refine g_getR h (index := 7) (j := 0) iM_0_0 (C := RX6) (T := TX6) (N := 13) rfl n_X6_thread_6 (by decide) rfl (by decide +kernel) dX6_thread_78 ?_
      refine g_iload_n h 3 dX6_thread_81 rfl rfl ?_
      refine g_iload h 4 dX6_thread_82 rfl ?_
      refine g_iadd h dX6_thread_84 ?_
      refine g_iload h 4 dX6_thread_85 rfl ?_
      refine g_if_ne h 94 dX6_thread_87 (by decide) (fun hc7 => ?_) (fun hc7 => ?_)
      · skip
        refine g_iload_n h 1 dX6_thread_90 rfl rfl ?_
        refine g_goto h (tgt := 123) dX6_thread_91 (by decide) ?_
        exact b_X6_thread_123 h hR _ ih _ _ _ _ _ _ _
      · skip
        refine g_iload h 4 dX6_thread_94 rfl ?_
        refine g_iconst h 1 dX6_thread_96 (by decide) ?_
        refine g_icmp_ne h 104 dX6_thread_97 (by decide) (fun hc8 => ?_) (fun hc8 => ?_)
        · skip
          refine g_iload_n h 2 dX6_thread_100 rfl rfl ?_
          refine g_goto h (tgt := 123) dX6_thread_101 (by decide) ?_
          exact b_X6_thread_123 h hR _ ih _ _ _ _ _ _ _
        · skip
          refine g_iload h 4 dX6_thread_104 rfl ?_
          refine g_iconst h 5 dX6_thread_106 (by decide) ?_
          refine g_icmp_eq h 117 dX6_thread_107 (by decide) (fun hc9 => ?_) (fun hc9 => ?_)
          · skip
            exact b_X6_thread_117 h hR _ ih _ _ _ _ _ _
          · skip
            refine g_iload h 4 dX6_thread_110 rfl ?_
            refine g_bipush h 7 dX6_thread_112 (by decide) ?_
            refine g_icmp_ne h 122 dX6_thread_114 (by decide) (fun hc10 => ?_) (fun hc10 => ?_)
            · skip
              exact b_X6_thread_117 h hR _ ih _ _ _ _ _ _
            · skip
              refine g_iconst h 0 dX6_thread_122 (by decide) ?_
              exact b_X6_thread_123 h hR _ ih _ _ _ _ _ _ _
set_option maxHeartbeats 4000000 in
set_option maxRecDepth 100000 in
theorem c_X6_thread (l : Launch) (ω : Wd)  (M0 : Mm) (T : Tm) (a1 : Int32) (a2 : Int32) {r : Int32} {T' : Tm} (hm : m_X6_thread a1 a2 T = some (r, T')) : MI l yX6_thread wsX6_thread ⟨2, 0, 0, 44⟩ ω LM [.ref (th ω 0 0), .int a1, .int a2] (uM M0 0 T) r (uM M0 0 T') := by
  refine met_i (cc := cX6_thread) (maxL := 5) (ty := .int) (by decide +kernel) rfl (Nat.le_of_ble_eq_true rfl) LM_nd ?_
  intro Γ h hR ht
  suffices K : Gq Γ ω LM (uM M0 0) 0 [(0, .ref (th ω 0 0)), (1, .int a1), (2, .int a2)] [] T (m_X6_thread a1 a2 T) from K (r, T') hm ht
  unfold m_X6_thread
  refine g_iload_n h 1 dX6_thread_0 rfl rfl ?_
  refine g_callP h (As := [.int a1]) (fun r t hG => c_X6_isPlayer l ω M00 a1 hG) 1 rfl gX6_thread_X6_isPlayer rfl rfl rfl (by decide +kernel) (by decide) (st0 := _) rfl (Nat.le_of_ble_eq_true rfl) dX6_thread_1 (fun r1 => ?_)
  refine g_if_ne h 9 dX6_thread_4 (by decide) (fun hc2 => ?_) (fun hc2 => ?_)
  · skip
    refine g_iconst h (-1) dX6_thread_7 (by decide) ?_
    exact g_iret hR rfl dX6_thread_8
  · skip
    refine g_iload_n h 2 dX6_thread_9 rfl rfl ?_
    refine g_iconst h 1 dX6_thread_10 (by decide) ?_
    refine g_bipush h 9 dX6_thread_11 (by decide) ?_
    refine g_callP h (As := [.int a2, .int 1, .int 9]) (fun r t hG => c_X6_in l ω M00 a2 1 9 hG) 3 rfl gX6_thread_X6_in rfl rfl rfl (by decide +kernel) (by decide) (st0 := _) rfl (Nat.le_of_ble_eq_true rfl) dX6_thread_13 (fun r3 => ?_)
    refine g_if_ne h 22 dX6_thread_16 (by decide) (fun hc4 => ?_) (fun hc4 => ?_)
    · skip
      refine g_bipush h (-2) dX6_thread_19 (by decide) ?_
      exact g_iret hR rfl dX6_thread_21
    · skip
      refine g_aload_n h 0 dX6_thread_22 rfl rfl ?_
      refine g_getR h (index := 7) (j := 0) iM_0_0 (C := RX6) (T := TX6) (N := 13) rfl n_X6_thread_6 (by decide) rfl (by decide +kernel) dX6_thread_23 ?_
      refine g_iconst h 4 dX6_thread_26 (by decide) ?_
      refine g_iconst h 2 dX6_thread_27 (by decide) ?_
      refine g_iload_n h 1 dX6_thread_28 rfl rfl ?_
      refine g_imul h dX6_thread_29 ?_
      refine g_iadd h dX6_thread_30 ?_
      refine g_iald h (v := T 1 ((4 + (2 * a1)).toNatClampNeg)) (uMr M0 0 _ _ _) iM_0_1 dX6_thread_31 ?_
      refine g_ni (fun v5 => ?_)
      refine g_if_ne h 38 dX6_thread_32 (by decide) (fun hc6 => ?_) (fun hc6 => ?_)
      · skip
        refine g_bipush h (-4) dX6_thread_35 (by decide) ?_
        exact g_iret hR rfl dX6_thread_37
      · skip
        refine g_aload_n h 0 dX6_thread_38 rfl rfl ?_
        refine g_getR h (index := 7) (j := 0) iM_0_0 (C := RX6) (T := TX6) (N := 13) rfl n_X6_thread_6 (by decide) rfl (by decide +kernel) dX6_thread_39 ?_
        refine g_iconst h 0 dX6_thread_42 (by decide) ?_
        refine g_iald h (v := T 1 ((0 : Int32).toNatClampNeg)) (uMr M0 0 _ _ _) iM_0_1 dX6_thread_43 ?_
        refine g_ni (fun v7 => ?_)
        refine g_bipush h 30 dX6_thread_44 (by decide) ?_
        refine g_icmp_ne h 52 dX6_thread_46 (by decide) (fun hc8 => ?_) (fun hc8 => ?_)
        · skip
          refine g_bipush h (-3) dX6_thread_49 (by decide) ?_
          exact g_iret hR rfl dX6_thread_51
        · skip
          refine g_aload_n h 0 dX6_thread_52 rfl rfl ?_
          refine g_callV h (As := []) (fun t => t) (fun r t hG => c_X6_records l ω M0 _ hG) iM_0_0 (C := RX6) (T := TX6) (N := 13) rfl 0 rfl gX6_thread_X6_records rfl rfl rfl (by decide +kernel) (by decide) (st0 := _) rfl (Nat.le_of_ble_eq_true rfl) dX6_thread_53 (fun r9 T10 => ?_)
          refine g_iconst h 0 dX6_thread_56 (by decide) ?_
          refine g_aload_n h 0 dX6_thread_57 rfl rfl ?_
          refine g_getR h (index := 7) (j := 0) iM_0_0 (C := RX6) (T := TX6) (N := 13) rfl n_X6_thread_6 (by decide) rfl (by decide +kernel) dX6_thread_58 ?_
          refine g_iconst h 0 dX6_thread_61 (by decide) ?_
          refine g_iald h (v := T10 1 ((0 : Int32).toNatClampNeg)) (uMr M0 0 _ _ _) iM_0_1 dX6_thread_62 ?_
          refine g_ni (fun v11 => ?_)
          refine g_callP h (As := [.int 0, .int v11]) (fun r t hG => c_X6_at l ω M00 0 v11 hG) 2 rfl gX6_thread_X6_at rfl rfl rfl (by decide +kernel) (by decide) (st0 := _) rfl (Nat.le_of_ble_eq_true rfl) dX6_thread_63 (fun r12 => ?_)
          refine g_istore_n h rfl (lv' := [(3, .int r12), (0, .ref (th ω 0 0)), (1, .int a1), (2, .int a2)]) dX6_thread_66 (by decide) [0, 1, 2, 3] rfl ?_
          refine g_iconst h 0 dX6_thread_67 (by decide) ?_
          refine g_istore h (lv' := [(4, .int 0), (3, .int r12), (0, .ref (th ω 0 0)), (1, .int a1), (2, .int a2)]) dX6_thread_68 (by decide) [0, 1, 2, 3, 4] rfl ?_
          refine g_sub (lv' := [(0, .ref (th ω 0 0)), (1, .int a1), (2, .int a2), (3, .int r12), (4, .int 0)]) [2, 3, 4, 1, 0] rfl ?_
          exact b_X6_thread_70 h hR fu _ _ _ _ _
theorem n_X6_undo_6 : ∀ w ∈ wsX60, w ∈ wsX6_undo := by decide +kernel
set_option maxHeartbeats 4000000 in
set_option maxRecDepth 100000 in
theorem c_X6_undo (l : Launch) (ω : Wd)  (M0 : Mm) (T : Tm) {r : Int32} {T' : Tm} (hm : m_X6_undo T = some (r, T')) : MI l yX6_undo wsX6_undo ⟨1, 0, 0, 23⟩ ω LM [.ref (th ω 0 0)] (uM M0 0 T) r (uM M0 0 T') := by
  refine met_i (cc := cX6_undo) (maxL := 1) (ty := .int) (by decide +kernel) rfl (Nat.le_of_ble_eq_true rfl) LM_nd ?_
  intro Γ h hR ht
  suffices K : Gq Γ ω LM (uM M0 0) 0 [(0, .ref (th ω 0 0))] [] T (m_X6_undo T) from K (r, T') hm ht
  unfold m_X6_undo
  refine g_aload_n h 0 dX6_undo_0 rfl rfl ?_
  refine g_getI h (v := T 0 1) (uMr M0 0 _ _ _) (index := 22) (j := 1) iM_0_0 (C := RX6) (T := TX6) (N := 13) rfl n_X6_undo_6 (by decide) rfl (by decide +kernel) dX6_undo_1 ?_
  refine g_ni (fun v1 => ?_)
  refine g_if_ne h 10 dX6_undo_4 (by decide) (fun hc2 => ?_) (fun hc2 => ?_)
  · skip
    refine g_bipush h (-5) dX6_undo_7 (by decide) ?_
    exact g_iret hR rfl dX6_undo_9
  · skip
    refine g_aload_n h 0 dX6_undo_10 rfl rfl ?_
    refine g_aload_n h 0 dX6_undo_11 rfl rfl ?_
    refine g_getI h (v := T 0 1) (uMr M0 0 _ _ _) (index := 22) (j := 1) iM_0_0 (C := RX6) (T := TX6) (N := 13) rfl n_X6_undo_6 (by decide) rfl (by decide +kernel) dX6_undo_12 ?_
    refine g_ni (fun v3 => ?_)
    refine g_iconst h 0 dX6_undo_15 (by decide) ?_
    refine g_callV h (As := [.int v3, .int 0]) (fun t => t) (fun r t hG => c_X6_copies l ω M0 _ v3 0 hG) iM_0_0 (C := RX6) (T := TX6) (N := 13) rfl 2 rfl gX6_undo_X6_copies rfl rfl rfl (by decide +kernel) (by decide) (st0 := _) rfl (Nat.le_of_ble_eq_true rfl) dX6_undo_16 (fun r4 T5 => ?_)
    refine g_aload_n h 0 dX6_undo_19 rfl rfl ?_
    refine g_dup h dX6_undo_20 rfl ?_
    refine g_getI h (v := T5 0 1) (uMr M0 0 _ _ _) (index := 22) (j := 1) iM_0_0 (C := RX6) (T := TX6) (N := 13) rfl n_X6_undo_6 (by decide) rfl (by decide +kernel) dX6_undo_21 ?_
    refine g_ni (fun v6 => ?_)
    refine g_iconst h 1 dX6_undo_24 (by decide) ?_
    refine g_isub h dX6_undo_25 ?_
    refine g_putI h (x' := wT T5 0 1 (v6 - 1)) (wM_uM M0 0 _ _ _ _).symm (index := 22) (j := 1) iM_0_0 (C := RX6) (T := TX6) (N := 13) rfl n_X6_undo_6 tyX6_ok nmX6 (by decide) rfl (by decide +kernel) rfl (ty := .int) (by decide +kernel) rfl rfl dX6_undo_26 ?_
    refine g_nm (fun T7 => ?_)
    refine g_aload_n h 0 dX6_undo_29 rfl rfl ?_
    refine g_getI h (v := T7 0 1) (uMr M0 0 _ _ _) (index := 22) (j := 1) iM_0_0 (C := RX6) (T := TX6) (N := 13) rfl n_X6_undo_6 (by decide) rfl (by decide +kernel) dX6_undo_30 ?_
    refine g_ni (fun v8 => ?_)
    exact g_iret hR rfl dX6_undo_33
theorem n_X6_winner_6 : ∀ w ∈ wsX60, w ∈ wsX6_winner := by decide +kernel
set_option maxHeartbeats 4000000 in
set_option maxRecDepth 100000 in
theorem c_X6_winner (l : Launch) (ω : Wd)  (M0 : Mm) (T : Tm) (a1 : Int32) (a2 : Int32) (a3 : Int32) {r : Int32} {T' : Tm} (hm : m_X6_winner a1 a2 a3 T = some (r, T')) : MI l yX6_winner wsX6_winner ⟨4, 0, 0, 90⟩ ω LM [.ref (th ω 0 0), .int a1, .int a2, .int a3] (uM M0 0 T) r (uM M0 0 T') := by
  refine met_i (cc := cX6_winner) (maxL := 8) (ty := .int) (by decide +kernel) rfl (Nat.le_of_ble_eq_true rfl) LM_nd ?_
  intro Γ h hR ht
  suffices K : Gq Γ ω LM (uM M0 0) 0 [(0, .ref (th ω 0 0)), (1, .int a1), (2, .int a2), (3, .int a3)] [] T (m_X6_winner a1 a2 a3 T) from K (r, T') hm ht
  unfold m_X6_winner
  refine g_aload_n h 0 dX6_winner_0 rfl rfl ?_
  refine g_iload_n h 1 dX6_winner_1 rfl rfl ?_
  refine g_iload_n h 2 dX6_winner_2 rfl rfl ?_
  refine g_iload_n h 3 dX6_winner_3 rfl rfl ?_
  refine g_callI h (As := [.int a1, .int a2, .int a3]) (fun t => t) (fun r t hG => c_X6_boutError l ω M0 _ a1 a2 a3 hG) iM_0_0 (C := RX6) (T := TX6) (N := 13) rfl 3 rfl gX6_winner_X6_boutError rfl rfl rfl (by decide +kernel) (by decide) (st0 := _) rfl (Nat.le_of_ble_eq_true rfl) dX6_winner_4 (fun r1 T2 => ?_)
  refine g_istore h (lv' := [(4, .int r1), (0, .ref (th ω 0 0)), (1, .int a1), (2, .int a2), (3, .int a3)]) dX6_winner_7 (by decide) [0, 1, 2, 3, 4] rfl ?_
  refine g_iload h 0 dX6_winner_9 rfl ?_
  refine g_if_eq h 17 dX6_winner_11 (by decide) (fun hc3 => ?_) (fun hc3 => ?_)
  · skip
    refine g_aload_n h 1 dX6_winner_17 rfl rfl ?_
    refine g_iconst h 0 dX6_winner_18 (by decide) ?_
    refine g_bipush h 7 dX6_winner_19 (by decide) ?_
    refine g_callV h (As := [.int 0, .int 7]) (fun t => t) (fun r t hG => c_X6_copies l ω M0 _ 0 7 hG) iM_0_0 (C := RX6) (T := TX6) (N := 13) rfl 2 rfl gX6_winner_X6_copies rfl rfl rfl (by decide +kernel) (by decide) (st0 := _) rfl (Nat.le_of_ble_eq_true rfl) dX6_winner_21 (fun r4 T5 => ?_)
    refine g_sipush h 1792 dX6_winner_24 (by decide) ?_
    refine g_istore h (lv' := [(5, .int 1792), (4, .int r1), (0, .ref (th ω 0 0)), (1, .int a1), (2, .int a2), (3, .int a3)]) dX6_winner_27 (by decide) [0, 1, 2, 3, 4, 5] rfl ?_
    refine g_aload_n h 2 dX6_winner_29 rfl rfl ?_
    refine g_iload_n h 5 dX6_winner_30 rfl rfl ?_
    refine g_putI h (x' := wT T5 0 5 a3) (wM_uM M0 0 _ _ _ _).symm (index := 44) (j := 5) iM_0_0 (C := RX6) (T := TX6) (N := 13) rfl n_X6_winner_6 tyX6_ok nmX6 (by decide) rfl (by decide +kernel) rfl (ty := .int) (by decide +kernel) rfl rfl dX6_winner_31 ?_
    refine g_nm (fun T6 => ?_)
    refine g_aload_n h 2 dX6_winner_34 rfl rfl ?_
    refine g_iload h 0 dX6_winner_35 rfl ?_
    refine g_iload_n h 3 dX6_winner_37 rfl rfl ?_
    refine g_iload_n h 4 dX6_winner_38 rfl rfl ?_
    refine g_callI h (As := [.int 1792, .int a1, .int a2]) (fun t => t) (fun r t hG => c_X6_fights l ω M0 _ 1792 a1 a2 hG) iM_0_0 (C := RX6) (T := TX6) (N := 13) rfl 3 rfl gX6_winner_X6_fights rfl rfl rfl (by decide +kernel) (by decide) (st0 := _) rfl (Nat.le_of_ble_eq_true rfl) dX6_winner_39 (fun r7 T8 => ?_)
    refine g_istore h (lv' := [(6, .int r7), (5, .int 1792), (4, .int r1), (0, .ref (th ω 0 0)), (1, .int a1), (2, .int a2), (3, .int a3)]) dX6_winner_42 (by decide) [0, 1, 2, 3, 4, 5, 6] rfl ?_
    refine g_aload_n h 3 dX6_winner_44 rfl rfl ?_
    refine g_getR h (index := 7) (j := 0) iM_0_0 (C := RX6) (T := TX6) (N := 13) rfl n_X6_winner_6 (by decide) rfl (by decide +kernel) dX6_winner_45 ?_
    refine g_iload h 1 dX6_winner_48 rfl ?_
    refine g_iload_n h 4 dX6_winner_50 rfl rfl ?_
    refine g_callP h (As := [.int 1792, .int a1]) (fun r t hG => c_X6_at l ω M00 1792 a1 hG) 2 rfl gX6_winner_X6_at rfl rfl rfl (by decide +kernel) (by decide) (st0 := _) rfl (Nat.le_of_ble_eq_true rfl) dX6_winner_51 (fun r9 => ?_)
    refine g_bipush h 7 dX6_winner_54 (by decide) ?_
    refine g_iadd h dX6_winner_56 ?_
    refine g_iald h (v := T8 1 ((r9 + 7).toNatClampNeg)) (uMr M0 0 _ _ _) iM_0_1 dX6_winner_57 ?_
    refine g_ni (fun v10 => ?_)
    refine g_istore h (lv' := [(7, .int v10), (6, .int r7), (5, .int 1792), (4, .int r1), (0, .ref (th ω 0 0)), (1, .int a1), (2, .int a2), (3, .int a3)]) dX6_winner_58 (by decide) [0, 1, 2, 3, 4, 5, 6, 7] rfl ?_
    refine g_iload h 0 dX6_winner_60 rfl ?_
    refine g_bipush h (-5) dX6_winner_62 (by decide) ?_
    refine g_icmp_eq h 72 dX6_winner_64 (by decide) (fun hc11 => ?_) (fun hc11 => ?_)
    · skip
      refine g_aload_n h 4 dX6_winner_72 rfl rfl ?_
      refine g_getR h (index := 7) (j := 0) iM_0_0 (C := RX6) (T := TX6) (N := 13) rfl n_X6_winner_6 (by decide) rfl (by decide +kernel) dX6_winner_73 ?_
      refine g_iload h 2 dX6_winner_76 rfl ?_
      refine g_iload_n h 6 dX6_winner_78 rfl rfl ?_
      refine g_callP h (As := [.int 1792, .int a2]) (fun r t hG => c_X6_at l ω M00 1792 a2 hG) 2 rfl gX6_winner_X6_at rfl rfl rfl (by decide +kernel) (by decide) (st0 := _) rfl (Nat.le_of_ble_eq_true rfl) dX6_winner_79 (fun r12 => ?_)
      refine g_bipush h 7 dX6_winner_82 (by decide) ?_
      refine g_iadd h dX6_winner_84 ?_
      refine g_iald h (v := T8 1 ((r12 + 7).toNatClampNeg)) (uMr M0 0 _ _ _) iM_0_1 dX6_winner_85 ?_
      refine g_ni (fun v13 => ?_)
      exact g_iret hR rfl dX6_winner_86
    · skip
      refine g_iload h 0 dX6_winner_67 rfl ?_
      refine g_goto h (tgt := 86) dX6_winner_69 (by decide) ?_
      exact g_iret hR rfl dX6_winner_86
  · skip
    refine g_iload h 0 dX6_winner_14 rfl ?_
    exact g_iret hR rfl dX6_winner_16
