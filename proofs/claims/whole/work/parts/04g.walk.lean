/-! WALKS (written by wip/whole/gen.py): X6_conker, X6_conkers, X6_victories, X6_count, X6_spare, X6_mends, X6_stamps, X6_does, X6_isPlayer, X6_doubt, X6_isHere, X6_takes, X6_number, X6_readsOrder -/
theorem n_X6_conker_6 : ∀ w ∈ wsX60, w ∈ wsX6_conker := by decide +kernel
set_option maxHeartbeats 4000000 in
set_option maxRecDepth 100000 in
theorem c_X6_conker (l : Launch) (ω : Wd)  (M0 : Mm) (T : Tm) (a1 : Int32) (a2 : Int32) {r : Int32} {T' : Tm} (hm : m_X6_conker a1 a2 T = some (r, T')) : MI l yX6_conker wsX6_conker ⟨2, 0, 0, 44⟩ ω LM [.ref (th ω 0 0), .int a1, .int a2] (uM M0 0 T) r (uM M0 0 T') := by
  refine met_i (cc := cX6_conker) (maxL := 3) (ty := .int) (by decide +kernel) rfl (Nat.le_of_ble_eq_true rfl) LM_nd ?_
  intro Γ h hR ht
  suffices K : Gq Γ ω LM (uM M0 0) 0 [(0, .ref (th ω 0 0)), (1, .int a1), (2, .int a2)] [] T (m_X6_conker a1 a2 T) from K (r, T') hm ht
  unfold m_X6_conker
  refine g_aload_n h 0 dX6_conker_0 rfl rfl ?_
  refine g_iload_n h 1 dX6_conker_1 rfl rfl ?_
  refine g_callI h (As := [.int a1]) (fun t => t) (fun r t hG => c_X6_isConker l ω M0 _ a1 hG) iM_0_0 (C := RX6) (T := TX6) (N := 13) rfl 1 rfl gX6_conker_X6_isConker rfl rfl rfl (by decide +kernel) (by decide) (st0 := _) rfl (Nat.le_of_ble_eq_true rfl) dX6_conker_2 (fun r1 T2 => ?_)
  refine g_if_ne h 10 dX6_conker_5 (by decide) (fun hc3 => ?_) (fun hc3 => ?_)
  · skip
    refine g_iconst h (-1) dX6_conker_8 (by decide) ?_
    exact g_iret hR rfl dX6_conker_9
  · skip
    refine g_iload_n h 2 dX6_conker_10 rfl rfl ?_
    refine g_iconst h 0 dX6_conker_11 (by decide) ?_
    refine g_bipush h 7 dX6_conker_12 (by decide) ?_
    refine g_callP h (As := [.int a2, .int 0, .int 7]) (fun r t hG => c_X6_in l ω M00 a2 0 7 hG) 3 rfl gX6_conker_X6_in rfl rfl rfl (by decide +kernel) (by decide) (st0 := _) rfl (Nat.le_of_ble_eq_true rfl) dX6_conker_14 (fun r4 => ?_)
    refine g_if_eq h 35 dX6_conker_17 (by decide) (fun hc5 => ?_) (fun hc5 => ?_)
    · skip
      refine g_iload_n h 2 dX6_conker_35 rfl rfl ?_
      refine g_bipush h 8 dX6_conker_36 (by decide) ?_
      refine g_icmp_ne h 49 dX6_conker_38 (by decide) (fun hc6 => ?_) (fun hc6 => ?_)
      · skip
        refine g_aload_n h 0 dX6_conker_41 rfl rfl ?_
        refine g_iload_n h 1 dX6_conker_42 rfl rfl ?_
        refine g_callI h (As := [.int a1]) (fun t => t) (fun r t hG => c_X6_heirOf l ω M0 _ a1 hG) iM_0_0 (C := RX6) (T := TX6) (N := 13) rfl 1 rfl gX6_conker_X6_heirOf rfl rfl rfl (by decide +kernel) (by decide) (st0 := _) rfl (Nat.le_of_ble_eq_true rfl) dX6_conker_43 (fun r7 T8 => ?_)
        refine g_goto h (tgt := 51) dX6_conker_46 (by decide) ?_
        exact g_iret hR rfl dX6_conker_51
      · skip
        refine g_bipush h (-2) dX6_conker_49 (by decide) ?_
        exact g_iret hR rfl dX6_conker_51
    · skip
      refine g_aload_n h 0 dX6_conker_20 rfl rfl ?_
      refine g_getR h (index := 7) (j := 0) iM_0_0 (C := RX6) (T := TX6) (N := 13) rfl n_X6_conker_6 (by decide) rfl (by decide +kernel) dX6_conker_21 ?_
      refine g_iconst h 0 dX6_conker_24 (by decide) ?_
      refine g_iload_n h 1 dX6_conker_25 rfl rfl ?_
      refine g_callP h (As := [.int 0, .int a1]) (fun r t hG => c_X6_at l ω M00 0 a1 hG) 2 rfl gX6_conker_X6_at rfl rfl rfl (by decide +kernel) (by decide) (st0 := _) rfl (Nat.le_of_ble_eq_true rfl) dX6_conker_26 (fun r9 => ?_)
      refine g_iload_n h 2 dX6_conker_29 rfl rfl ?_
      refine g_iadd h dX6_conker_30 ?_
      refine g_iald h (v := T2 1 ((r9 + a2).toNatClampNeg)) (uMr M0 0 _ _ _) iM_0_1 dX6_conker_31 ?_
      refine g_ni (fun v10 => ?_)
      refine g_goto h (tgt := 51) dX6_conker_32 (by decide) ?_
      exact g_iret hR rfl dX6_conker_51
theorem n_X6_conkers_6 : ∀ w ∈ wsX60, w ∈ wsX6_conkers := by decide +kernel
set_option maxHeartbeats 4000000 in
set_option maxRecDepth 100000 in
theorem b_X6_conkers_61 {Γ : Cx} {l : Launch} {ω : Wd} {M0 : Mm}  (h : CxOk Γ l ⟨1, 0, 0, 21⟩ 6 ω LM cX6_conkers yX6_conkers.cls wsX6_conkers) (hR : RetI Γ ω LM cX6_conkers .int) (κ5 : Int32 → Int32 → Int32 → Int32 → Tm → Option (Int32 × Tm)) (hκ5 : ∀ (b1 : Int32) (b2 : Int32) (b3 : Int32) (b4 : Int32) (T : Tm), Gq Γ ω LM (uM M0 0) 5 [(0, .ref (th ω 0 0)), (1, .int b1), (2, .int b2), (3, .int b3), (4, .int b4)] [] T (κ5 b1 b2 b3 b4 T)) : ∀ (b1 : Int32) (b2 : Int32) (b4 : Int32) (s0 : Int32) (s1 : Int32) (T : Tm), Gq Γ ω LM (uM M0 0) 61 [(0, .ref (th ω 0 0)), (1, .int b1), (2, .int b2), (4, .int b4)] [.int s1, .int s0] T (m_X6_conkers_61 κ5 b1 b2 b4 s0 s1 T) := by
  intro b1 b2 b4 s0 s1 T
  unfold m_X6_conkers_61
  refine g_callP h (As := [.int s1]) (fun r t hG => c_X6_flag l ω M00 s1 hG) 1 rfl gX6_conkers_X6_flag rfl rfl rfl (by decide +kernel) (by decide) (st0 := _) rfl (Nat.le_of_ble_eq_true rfl) dX6_conkers_61 (fun r1 => ?_)
  refine g_iadd h dX6_conkers_64 ?_
  refine g_istore_n h rfl (lv' := [(3, .int (s0 + r1)), (0, .ref (th ω 0 0)), (1, .int b1), (2, .int b2), (4, .int b4)]) dX6_conkers_65 (by decide) [0, 1, 2, 3, 4] rfl ?_
  refine g_iinc h (b4 + 1) (lv' := [(4, .int (b4 + 1)), (3, .int (s0 + r1)), (0, .ref (th ω 0 0)), (1, .int b1), (2, .int b2)]) dX6_conkers_66 4 rfl (congrArg (fun z => b4 + z) (by decide)) (by decide) [0, 1, 2, 3, 4] rfl ?_
  refine g_goto h (tgt := 5) dX6_conkers_69 (by decide) ?_
  refine g_sub (lv' := [(0, .ref (th ω 0 0)), (1, .int b1), (2, .int b2), (3, .int (s0 + r1)), (4, .int (b4 + 1))]) [2, 3, 4, 1, 0] rfl ?_
  exact hκ5 _ _ _ _ _
set_option maxHeartbeats 4000000 in
set_option maxRecDepth 100000 in
theorem b_X6_conkers_60 {Γ : Cx} {l : Launch} {ω : Wd} {M0 : Mm}  (h : CxOk Γ l ⟨1, 0, 0, 21⟩ 6 ω LM cX6_conkers yX6_conkers.cls wsX6_conkers) (hR : RetI Γ ω LM cX6_conkers .int) (κ5 : Int32 → Int32 → Int32 → Int32 → Tm → Option (Int32 × Tm)) (hκ5 : ∀ (b1 : Int32) (b2 : Int32) (b3 : Int32) (b4 : Int32) (T : Tm), Gq Γ ω LM (uM M0 0) 5 [(0, .ref (th ω 0 0)), (1, .int b1), (2, .int b2), (3, .int b3), (4, .int b4)] [] T (κ5 b1 b2 b3 b4 T)) : ∀ (b1 : Int32) (b2 : Int32) (b4 : Int32) (s0 : Int32) (T : Tm), Gq Γ ω LM (uM M0 0) 60 [(0, .ref (th ω 0 0)), (1, .int b1), (2, .int b2), (4, .int b4)] [.int s0] T (m_X6_conkers_60 κ5 b1 b2 b4 s0 T) := by
  intro b1 b2 b4 s0 T
  unfold m_X6_conkers_60
  refine g_iconst h 0 dX6_conkers_60 (by decide) ?_
  exact b_X6_conkers_61 h hR _ hκ5 _ _ _ _ _ _
set_option maxHeartbeats 4000000 in
set_option maxRecDepth 100000 in
theorem b_X6_conkers_56 {Γ : Cx} {l : Launch} {ω : Wd} {M0 : Mm}  (h : CxOk Γ l ⟨1, 0, 0, 21⟩ 6 ω LM cX6_conkers yX6_conkers.cls wsX6_conkers) (hR : RetI Γ ω LM cX6_conkers .int) (κ5 : Int32 → Int32 → Int32 → Int32 → Tm → Option (Int32 × Tm)) (hκ5 : ∀ (b1 : Int32) (b2 : Int32) (b3 : Int32) (b4 : Int32) (T : Tm), Gq Γ ω LM (uM M0 0) 5 [(0, .ref (th ω 0 0)), (1, .int b1), (2, .int b2), (3, .int b3), (4, .int b4)] [] T (κ5 b1 b2 b3 b4 T)) : ∀ (b1 : Int32) (b2 : Int32) (b4 : Int32) (s0 : Int32) (T : Tm), Gq Γ ω LM (uM M0 0) 56 [(0, .ref (th ω 0 0)), (1, .int b1), (2, .int b2), (4, .int b4)] [.int s0] T (m_X6_conkers_56 κ5 b1 b2 b4 s0 T) := by
  intro b1 b2 b4 s0 T
  unfold m_X6_conkers_56
  refine g_iconst h 1 dX6_conkers_56 (by decide) ?_
  refine g_goto h (tgt := 61) dX6_conkers_57 (by decide) ?_
  exact b_X6_conkers_61 h hR _ hκ5 _ _ _ _ _ _
set_option maxHeartbeats 4000000 in
set_option maxRecDepth 100000 in
theorem b_X6_conkers_5 {Γ : Cx} {l : Launch} {ω : Wd} {M0 : Mm}  (h : CxOk Γ l ⟨1, 0, 0, 21⟩ 6 ω LM cX6_conkers yX6_conkers.cls wsX6_conkers) (hR : RetI Γ ω LM cX6_conkers .int) : ∀ (n : Nat) (b1 : Int32) (b2 : Int32) (b3 : Int32) (b4 : Int32) (T : Tm), Gq Γ ω LM (uM M0 0) 5 [(0, .ref (th ω 0 0)), (1, .int b1), (2, .int b2), (3, .int b3), (4, .int b4)] [] T (m_X6_conkers_5 n b1 b2 b3 b4 T) := by
  intro n
  induction n with
  | zero =>
    intro b1 b2 b3 b4 T
    rw [m_X6_conkers_5.eq_1]
    exact g_none
  | succ n ih =>
    intro b1 b2 b3 b4 T
    rw [m_X6_conkers_5.eq_2]
    refine g_iload h 4 dX6_conkers_5 rfl ?_
    refine g_aload_n h 0 dX6_conkers_7 rfl rfl ?_
    refine g_getR h (index := 7) (j := 0) iM_0_0 (C := RX6) (T := TX6) (N := 13) rfl n_X6_conkers_6 (by decide) rfl (by decide +kernel) dX6_conkers_8 ?_
    refine g_iconst h 0 dX6_conkers_11 (by decide) ?_
    refine g_iald h (v := T 1 ((0 : Int32).toNatClampNeg)) (uMr M0 0 _ _ _) iM_0_1 dX6_conkers_12 ?_
    refine g_ni (fun v1 => ?_)
    refine g_icmp_ge h 72 dX6_conkers_13 (by decide) (fun hc2 => ?_) (fun hc2 => ?_)
    · skip
      refine g_iload_n h 3 dX6_conkers_72 rfl rfl ?_
      exact g_iret hR rfl dX6_conkers_73
    · skip
      refine g_iconst h 0 dX6_conkers_16 (by decide) ?_
      refine g_iload h 4 dX6_conkers_17 rfl ?_
      refine g_callP h (As := [.int 0, .int b4]) (fun r t hG => c_X6_at l ω M00 0 b4 hG) 2 rfl gX6_conkers_X6_at rfl rfl rfl (by decide +kernel) (by decide) (st0 := _) rfl (Nat.le_of_ble_eq_true rfl) dX6_conkers_19 (fun r3 => ?_)
      refine g_istore h (lv' := [(5, .int r3), (0, .ref (th ω 0 0)), (1, .int b1), (2, .int b2), (3, .int b3), (4, .int b4)]) dX6_conkers_22 (by decide) [0, 1, 2, 3, 4, 5] rfl ?_
      refine g_iload_n h 4 dX6_conkers_24 rfl rfl ?_
      refine g_aload_n h 1 dX6_conkers_25 rfl rfl ?_
      refine g_getR h (index := 7) (j := 0) iM_0_0 (C := RX6) (T := TX6) (N := 13) rfl n_X6_conkers_6 (by decide) rfl (by decide +kernel) dX6_conkers_26 ?_
      refine g_iload h 0 dX6_conkers_29 rfl ?_
      refine g_bipush h 6 dX6_conkers_31 (by decide) ?_
      refine g_iadd h dX6_conkers_33 ?_
      refine g_iald h (v := T 1 ((r3 + 6).toNatClampNeg)) (uMr M0 0 _ _ _) iM_0_1 dX6_conkers_34 ?_
      refine g_ni (fun v4 => ?_)
      refine g_iload_n h 3 dX6_conkers_35 rfl rfl ?_
      refine g_icmp_ne h 60 dX6_conkers_36 (by decide) (fun hc5 => ?_) (fun hc5 => ?_)
      · skip
        refine g_iload_n h 2 dX6_conkers_39 rfl rfl ?_
        refine g_bipush h (-5) dX6_conkers_40 (by decide) ?_
        refine g_icmp_eq h 56 dX6_conkers_42 (by decide) (fun hc6 => ?_) (fun hc6 => ?_)
        · skip
          refine g_sub (lv' := [(0, .ref (th ω 0 0)), (1, .int b1), (2, .int b2), (4, .int b4)]) [1, 2, 3, 5] rfl ?_
          exact b_X6_conkers_56 h hR _ ih _ _ _ _ _
        · skip
          refine g_aload_n h 1 dX6_conkers_45 rfl rfl ?_
          refine g_getR h (index := 7) (j := 0) iM_0_0 (C := RX6) (T := TX6) (N := 13) rfl n_X6_conkers_6 (by decide) rfl (by decide +kernel) dX6_conkers_46 ?_
          refine g_iload h 0 dX6_conkers_49 rfl ?_
          refine g_iald h (v := T 1 r3.toNatClampNeg) (uMr M0 0 _ _ _) iM_0_1 dX6_conkers_51 ?_
          refine g_ni (fun v7 => ?_)
          refine g_iload_n h 2 dX6_conkers_52 rfl rfl ?_
          refine g_icmp_ne h 60 dX6_conkers_53 (by decide) (fun hc8 => ?_) (fun hc8 => ?_)
          · skip
            refine g_sub (lv' := [(0, .ref (th ω 0 0)), (1, .int b1), (2, .int b2), (4, .int b4)]) [1, 2, 3, 5] rfl ?_
            exact b_X6_conkers_56 h hR _ ih _ _ _ _ _
          · skip
            refine g_sub (lv' := [(0, .ref (th ω 0 0)), (1, .int b1), (2, .int b2), (4, .int b4)]) [1, 2, 3, 5] rfl ?_
            exact b_X6_conkers_60 h hR _ ih _ _ _ _ _
      · skip
        refine g_sub (lv' := [(0, .ref (th ω 0 0)), (1, .int b1), (2, .int b2), (4, .int b4)]) [1, 2, 3, 5] rfl ?_
        exact b_X6_conkers_60 h hR _ ih _ _ _ _ _
set_option maxHeartbeats 4000000 in
set_option maxRecDepth 100000 in
theorem c_X6_conkers (l : Launch) (ω : Wd)  (M0 : Mm) (T : Tm) (a1 : Int32) (a2 : Int32) {r : Int32} {T' : Tm} (hm : m_X6_conkers a1 a2 T = some (r, T')) : MI l yX6_conkers wsX6_conkers ⟨1, 0, 0, 21⟩ ω LM [.ref (th ω 0 0), .int a1, .int a2] (uM M0 0 T) r (uM M0 0 T') := by
  refine met_i (cc := cX6_conkers) (maxL := 6) (ty := .int) (by decide +kernel) rfl (Nat.le_of_ble_eq_true rfl) LM_nd ?_
  intro Γ h hR ht
  suffices K : Gq Γ ω LM (uM M0 0) 0 [(0, .ref (th ω 0 0)), (1, .int a1), (2, .int a2)] [] T (m_X6_conkers a1 a2 T) from K (r, T') hm ht
  unfold m_X6_conkers
  refine g_iconst h 0 dX6_conkers_0 (by decide) ?_
  refine g_istore_n h rfl (lv' := [(3, .int 0), (0, .ref (th ω 0 0)), (1, .int a1), (2, .int a2)]) dX6_conkers_1 (by decide) [0, 1, 2, 3] rfl ?_
  refine g_iconst h 0 dX6_conkers_2 (by decide) ?_
  refine g_istore h (lv' := [(4, .int 0), (3, .int 0), (0, .ref (th ω 0 0)), (1, .int a1), (2, .int a2)]) dX6_conkers_3 (by decide) [0, 1, 2, 3, 4] rfl ?_
  refine g_sub (lv' := [(0, .ref (th ω 0 0)), (1, .int a1), (2, .int a2), (3, .int 0), (4, .int 0)]) [2, 3, 4, 1, 0] rfl ?_
  exact b_X6_conkers_5 h hR fu _ _ _ _ _
theorem n_X6_victories_6 : ∀ w ∈ wsX60, w ∈ wsX6_victories := by decide +kernel
set_option maxHeartbeats 4000000 in
set_option maxRecDepth 100000 in
theorem b_X6_victories_52 {Γ : Cx} {l : Launch} {ω : Wd} {M0 : Mm}  (h : CxOk Γ l ⟨1, 0, 0, 21⟩ 5 ω LM cX6_victories yX6_victories.cls wsX6_victories) (hR : RetI Γ ω LM cX6_victories .int) (κ4 : Int32 → Int32 → Int32 → Tm → Option (Int32 × Tm)) (hκ4 : ∀ (b1 : Int32) (b2 : Int32) (b3 : Int32) (T : Tm), Gq Γ ω LM (uM M0 0) 4 [(0, .ref (th ω 0 0)), (1, .int b1), (2, .int b2), (3, .int b3)] [] T (κ4 b1 b2 b3 T)) : ∀ (b1 : Int32) (b3 : Int32) (s0 : Int32) (s1 : Int32) (T : Tm), Gq Γ ω LM (uM M0 0) 52 [(0, .ref (th ω 0 0)), (1, .int b1), (3, .int b3)] [.int s1, .int s0] T (m_X6_victories_52 κ4 b1 b3 s0 s1 T) := by
  intro b1 b3 s0 s1 T
  unfold m_X6_victories_52
  refine g_iadd h dX6_victories_52 ?_
  refine g_istore_n h rfl (lv' := [(2, .int (s0 + s1)), (0, .ref (th ω 0 0)), (1, .int b1), (3, .int b3)]) dX6_victories_53 (by decide) [0, 1, 2, 3] rfl ?_
  refine g_iinc h (b3 + 1) (lv' := [(3, .int (b3 + 1)), (2, .int (s0 + s1)), (0, .ref (th ω 0 0)), (1, .int b1)]) dX6_victories_54 3 rfl (congrArg (fun z => b3 + z) (by decide)) (by decide) [0, 1, 2, 3] rfl ?_
  refine g_goto h (tgt := 4) dX6_victories_57 (by decide) ?_
  refine g_sub (lv' := [(0, .ref (th ω 0 0)), (1, .int b1), (2, .int (s0 + s1)), (3, .int (b3 + 1))]) [2, 3, 1, 0] rfl ?_
  exact hκ4 _ _ _ _
set_option maxHeartbeats 4000000 in
set_option maxRecDepth 100000 in
theorem b_X6_victories_39 {Γ : Cx} {l : Launch} {ω : Wd} {M0 : Mm}  (h : CxOk Γ l ⟨1, 0, 0, 21⟩ 5 ω LM cX6_victories yX6_victories.cls wsX6_victories) (hR : RetI Γ ω LM cX6_victories .int) (κ4 : Int32 → Int32 → Int32 → Tm → Option (Int32 × Tm)) (hκ4 : ∀ (b1 : Int32) (b2 : Int32) (b3 : Int32) (T : Tm), Gq Γ ω LM (uM M0 0) 4 [(0, .ref (th ω 0 0)), (1, .int b1), (2, .int b2), (3, .int b3)] [] T (κ4 b1 b2 b3 T)) : ∀ (b1 : Int32) (b3 : Int32) (b4 : Int32) (s0 : Int32) (T : Tm), Gq Γ ω LM (uM M0 0) 39 [(0, .ref (th ω 0 0)), (1, .int b1), (3, .int b3), (4, .int b4)] [.int s0] T (m_X6_victories_39 κ4 b1 b3 b4 s0 T) := by
  intro b1 b3 b4 s0 T
  unfold m_X6_victories_39
  refine g_aload_n h 0 dX6_victories_39 rfl rfl ?_
  refine g_getR h (index := 7) (j := 0) iM_0_0 (C := RX6) (T := TX6) (N := 13) rfl n_X6_victories_6 (by decide) rfl (by decide +kernel) dX6_victories_40 ?_
  refine g_iload h 3 dX6_victories_43 rfl ?_
  refine g_iconst h 4 dX6_victories_45 (by decide) ?_
  refine g_iadd h dX6_victories_46 ?_
  refine g_iald h (v := T 1 ((b4 + 4).toNatClampNeg)) (uMr M0 0 _ _ _) iM_0_1 dX6_victories_47 ?_
  refine g_ni (fun v1 => ?_)
  refine g_goto h (tgt := 52) dX6_victories_48 (by decide) ?_
  refine g_sub (lv' := [(0, .ref (th ω 0 0)), (1, .int b1), (3, .int b3)]) [0, 1, 2] rfl ?_
  exact b_X6_victories_52 h hR _ hκ4 _ _ _ _ _
set_option maxHeartbeats 4000000 in
set_option maxRecDepth 100000 in
theorem b_X6_victories_4 {Γ : Cx} {l : Launch} {ω : Wd} {M0 : Mm}  (h : CxOk Γ l ⟨1, 0, 0, 21⟩ 5 ω LM cX6_victories yX6_victories.cls wsX6_victories) (hR : RetI Γ ω LM cX6_victories .int) : ∀ (n : Nat) (b1 : Int32) (b2 : Int32) (b3 : Int32) (T : Tm), Gq Γ ω LM (uM M0 0) 4 [(0, .ref (th ω 0 0)), (1, .int b1), (2, .int b2), (3, .int b3)] [] T (m_X6_victories_4 n b1 b2 b3 T) := by
  intro n
  induction n with
  | zero =>
    intro b1 b2 b3 T
    rw [m_X6_victories_4.eq_1]
    exact g_none
  | succ n ih =>
    intro b1 b2 b3 T
    rw [m_X6_victories_4.eq_2]
    refine g_iload_n h 3 dX6_victories_4 rfl rfl ?_
    refine g_aload_n h 0 dX6_victories_5 rfl rfl ?_
    refine g_getR h (index := 7) (j := 0) iM_0_0 (C := RX6) (T := TX6) (N := 13) rfl n_X6_victories_6 (by decide) rfl (by decide +kernel) dX6_victories_6 ?_
    refine g_iconst h 0 dX6_victories_9 (by decide) ?_
    refine g_iald h (v := T 1 ((0 : Int32).toNatClampNeg)) (uMr M0 0 _ _ _) iM_0_1 dX6_victories_10 ?_
    refine g_ni (fun v1 => ?_)
    refine g_icmp_ge h 60 dX6_victories_11 (by decide) (fun hc2 => ?_) (fun hc2 => ?_)
    · skip
      refine g_iload_n h 2 dX6_victories_60 rfl rfl ?_
      exact g_iret hR rfl dX6_victories_61
    · skip
      refine g_iconst h 0 dX6_victories_14 (by decide) ?_
      refine g_iload_n h 3 dX6_victories_15 rfl rfl ?_
      refine g_callP h (As := [.int 0, .int b3]) (fun r t hG => c_X6_at l ω M00 0 b3 hG) 2 rfl gX6_victories_X6_at rfl rfl rfl (by decide +kernel) (by decide) (st0 := _) rfl (Nat.le_of_ble_eq_true rfl) dX6_victories_16 (fun r3 => ?_)
      refine g_istore h (lv' := [(4, .int r3), (0, .ref (th ω 0 0)), (1, .int b1), (2, .int b2), (3, .int b3)]) dX6_victories_19 (by decide) [0, 1, 2, 3, 4] rfl ?_
      refine g_iload_n h 3 dX6_victories_21 rfl rfl ?_
      refine g_iload_n h 2 dX6_victories_22 rfl rfl ?_
      refine g_bipush h (-5) dX6_victories_23 (by decide) ?_
      refine g_icmp_eq h 39 dX6_victories_25 (by decide) (fun hc4 => ?_) (fun hc4 => ?_)
      · skip
        refine g_sub (lv' := [(0, .ref (th ω 0 0)), (1, .int b1), (3, .int b3), (4, .int r3)]) [1, 2, 4, 0] rfl ?_
        exact b_X6_victories_39 h hR _ ih _ _ _ _ _
      · skip
        refine g_aload_n h 1 dX6_victories_28 rfl rfl ?_
        refine g_getR h (index := 7) (j := 0) iM_0_0 (C := RX6) (T := TX6) (N := 13) rfl n_X6_victories_6 (by decide) rfl (by decide +kernel) dX6_victories_29 ?_
        refine g_iload h 0 dX6_victories_32 rfl ?_
        refine g_iald h (v := T 1 r3.toNatClampNeg) (uMr M0 0 _ _ _) iM_0_1 dX6_victories_34 ?_
        refine g_ni (fun v5 => ?_)
        refine g_iload_n h 2 dX6_victories_35 rfl rfl ?_
        refine g_icmp_ne h 51 dX6_victories_36 (by decide) (fun hc6 => ?_) (fun hc6 => ?_)
        · skip
          refine g_sub (lv' := [(0, .ref (th ω 0 0)), (1, .int b1), (3, .int b3), (4, .int r3)]) [1, 2, 4, 0] rfl ?_
          exact b_X6_victories_39 h hR _ ih _ _ _ _ _
        · skip
          refine g_iconst h 0 dX6_victories_51 (by decide) ?_
          refine g_sub (lv' := [(0, .ref (th ω 0 0)), (1, .int b1), (3, .int b3)]) [1, 2, 4] rfl ?_
          exact b_X6_victories_52 h hR _ ih _ _ _ _ _
set_option maxHeartbeats 4000000 in
set_option maxRecDepth 100000 in
theorem c_X6_victories (l : Launch) (ω : Wd)  (M0 : Mm) (T : Tm) (a1 : Int32) {r : Int32} {T' : Tm} (hm : m_X6_victories a1 T = some (r, T')) : MI l yX6_victories wsX6_victories ⟨1, 0, 0, 21⟩ ω LM [.ref (th ω 0 0), .int a1] (uM M0 0 T) r (uM M0 0 T') := by
  refine met_i (cc := cX6_victories) (maxL := 5) (ty := .int) (by decide +kernel) rfl (Nat.le_of_ble_eq_true rfl) LM_nd ?_
  intro Γ h hR ht
  suffices K : Gq Γ ω LM (uM M0 0) 0 [(0, .ref (th ω 0 0)), (1, .int a1)] [] T (m_X6_victories a1 T) from K (r, T') hm ht
  unfold m_X6_victories
  refine g_iconst h 0 dX6_victories_0 (by decide) ?_
  refine g_istore_n h rfl (lv' := [(2, .int 0), (0, .ref (th ω 0 0)), (1, .int a1)]) dX6_victories_1 (by decide) [0, 1, 2] rfl ?_
  refine g_iconst h 0 dX6_victories_2 (by decide) ?_
  refine g_istore_n h rfl (lv' := [(3, .int 0), (2, .int 0), (0, .ref (th ω 0 0)), (1, .int a1)]) dX6_victories_3 (by decide) [0, 1, 2, 3] rfl ?_
  refine g_sub (lv' := [(0, .ref (th ω 0 0)), (1, .int a1), (2, .int 0), (3, .int 0)]) [2, 3, 1, 0] rfl ?_
  exact b_X6_victories_4 h hR fu _ _ _ _
theorem n_X6_count_6 : ∀ w ∈ wsX60, w ∈ wsX6_count := by decide +kernel
set_option maxHeartbeats 4000000 in
set_option maxRecDepth 100000 in
theorem b_X6_count_111 {Γ : Cx} {l : Launch} {ω : Wd} {M0 : Mm}  (h : CxOk Γ l ⟨2, 0, 0, 46⟩ 2 ω LM cX6_count yX6_count.cls wsX6_count) (hR : RetI Γ ω LM cX6_count .int) : ∀ (s1 : Int32) (T : Tm), Gq Γ ω LM (uM M0 0) 111 [] [.int s1, .ref (th ω 0 0)] T (m_X6_count_111 s1 T) := by
  intro s1 T
  unfold m_X6_count_111
  refine g_callI h (As := [.int s1]) (fun t => t) (fun r t hG => c_X6_boasts l ω M0 _ s1 hG) iM_0_0 (C := RX6) (T := TX6) (N := 13) rfl 1 rfl gX6_count_X6_boasts rfl rfl rfl (by decide +kernel) (by decide) (st0 := _) rfl (Nat.le_of_ble_eq_true rfl) dX6_count_111 (fun r1 T2 => ?_)
  exact g_iret hR rfl dX6_count_114
set_option maxHeartbeats 4000000 in
set_option maxRecDepth 100000 in
theorem b_X6_count_99 {Γ : Cx} {l : Launch} {ω : Wd} {M0 : Mm}  (h : CxOk Γ l ⟨2, 0, 0, 46⟩ 2 ω LM cX6_count yX6_count.cls wsX6_count) (hR : RetI Γ ω LM cX6_count .int) : ∀ (b1 : Int32) (T : Tm), Gq Γ ω LM (uM M0 0) 99 [(0, .ref (th ω 0 0)), (1, .int b1)] [] T (m_X6_count_99 b1 T) := by
  intro b1 T
  unfold m_X6_count_99
  refine g_aload_n h 0 dX6_count_99 rfl rfl ?_
  refine g_iload_n h 1 dX6_count_100 rfl rfl ?_
  refine g_bipush h 9 dX6_count_101 (by decide) ?_
  refine g_icmp_ne h 110 dX6_count_103 (by decide) (fun hc1 => ?_) (fun hc1 => ?_)
  · skip
    refine g_iconst h 1 dX6_count_106 (by decide) ?_
    refine g_goto h (tgt := 111) dX6_count_107 (by decide) ?_
    refine g_sub (lv' := []) [] rfl ?_
    exact b_X6_count_111 h hR _ _
  · skip
    refine g_iconst h 0 dX6_count_110 (by decide) ?_
    refine g_sub (lv' := []) [] rfl ?_
    exact b_X6_count_111 h hR _ _
set_option maxHeartbeats 4000000 in
set_option maxRecDepth 100000 in
theorem b_X6_count_88 {Γ : Cx} {l : Launch} {ω : Wd} {M0 : Mm}  (h : CxOk Γ l ⟨2, 0, 0, 46⟩ 2 ω LM cX6_count yX6_count.cls wsX6_count) (hR : RetI Γ ω LM cX6_count .int) : ∀ (b1 : Int32) (T : Tm), Gq Γ ω LM (uM M0 0) 88 [(0, .ref (th ω 0 0)), (1, .int b1)] [] T (m_X6_count_88 b1 T) := by
  intro b1 T
  unfold m_X6_count_88
  refine g_aload_n h 0 dX6_count_88 rfl rfl ?_
  refine g_getR h (index := 7) (j := 0) iM_0_0 (C := RX6) (T := TX6) (N := 13) rfl n_X6_count_6 (by decide) rfl (by decide +kernel) dX6_count_89 ?_
  refine g_iconst h 1 dX6_count_92 (by decide) ?_
  refine g_iload_n h 1 dX6_count_93 rfl rfl ?_
  refine g_iadd h dX6_count_94 ?_
  refine g_iconst h 5 dX6_count_95 (by decide) ?_
  refine g_isub h dX6_count_96 ?_
  refine g_iald h (v := T 1 (((1 + b1) - 5).toNatClampNeg)) (uMr M0 0 _ _ _) iM_0_1 dX6_count_97 ?_
  refine g_ni (fun v1 => ?_)
  exact g_iret hR rfl dX6_count_98
set_option maxHeartbeats 4000000 in
set_option maxRecDepth 100000 in
theorem b_X6_count_71 {Γ : Cx} {l : Launch} {ω : Wd} {M0 : Mm}  (h : CxOk Γ l ⟨2, 0, 0, 46⟩ 2 ω LM cX6_count yX6_count.cls wsX6_count) (hR : RetI Γ ω LM cX6_count .int) : ∀ (b1 : Int32) (T : Tm), Gq Γ ω LM (uM M0 0) 71 [(0, .ref (th ω 0 0)), (1, .int b1)] [] T (m_X6_count_71 b1 T) := by
  intro b1 T
  unfold m_X6_count_71
  refine g_aload_n h 0 dX6_count_71 rfl rfl ?_
  refine g_bipush h (-5) dX6_count_72 (by decide) ?_
  refine g_iload_n h 1 dX6_count_74 rfl rfl ?_
  refine g_iconst h 1 dX6_count_75 (by decide) ?_
  refine g_isub h dX6_count_76 ?_
  refine g_callI h (As := [.int (-5), .int (b1 - 1)]) (fun t => t) (fun r t hG => c_X6_conkers l ω M0 _ (-5) (b1 - 1) hG) iM_0_0 (C := RX6) (T := TX6) (N := 13) rfl 2 rfl gX6_count_X6_conkers rfl rfl rfl (by decide +kernel) (by decide) (st0 := _) rfl (Nat.le_of_ble_eq_true rfl) dX6_count_77 (fun r1 T2 => ?_)
  exact g_iret hR rfl dX6_count_80
set_option maxHeartbeats 4000000 in
set_option maxRecDepth 100000 in
theorem c_X6_count (l : Launch) (ω : Wd)  (M0 : Mm) (T : Tm) (a1 : Int32) {r : Int32} {T' : Tm} (hm : m_X6_count a1 T = some (r, T')) : MI l yX6_count wsX6_count ⟨2, 0, 0, 46⟩ ω LM [.ref (th ω 0 0), .int a1] (uM M0 0 T) r (uM M0 0 T') := by
  refine met_i (cc := cX6_count) (maxL := 2) (ty := .int) (by decide +kernel) rfl (Nat.le_of_ble_eq_true rfl) LM_nd ?_
  intro Γ h hR ht
  suffices K : Gq Γ ω LM (uM M0 0) 0 [(0, .ref (th ω 0 0)), (1, .int a1)] [] T (m_X6_count a1 T) from K (r, T') hm ht
  unfold m_X6_count
  refine g_iload_n h 1 dX6_count_0 rfl rfl ?_
  refine g_if (fun hc1 => ?_) (fun hc1 => ?_)
  · refine g_tsIn h 0 (off := 63) 64 hc1 dX6_count_1 (by decide) (by decide) rfl (by decide) ?_
    refine g_aload_n h 0 dX6_count_64 rfl rfl ?_
    refine g_getR h (index := 7) (j := 0) iM_0_0 (C := RX6) (T := TX6) (N := 13) rfl n_X6_count_6 (by decide) rfl (by decide +kernel) dX6_count_65 ?_
    refine g_iconst h 0 dX6_count_68 (by decide) ?_
    refine g_iald h (v := T 1 ((0 : Int32).toNatClampNeg)) (uMr M0 0 _ _ _) iM_0_1 dX6_count_69 ?_
    refine g_ni (fun v2 => ?_)
    exact g_iret hR rfl dX6_count_70
  refine g_if (fun hc3 => ?_) (fun hc3 => ?_)
  · refine g_tsIn h 1 (off := 70) 71 hc3 dX6_count_1 (by decide) (by decide) rfl (by decide) ?_
    exact b_X6_count_71 h hR _ _
  refine g_if (fun hc4 => ?_) (fun hc4 => ?_)
  · refine g_tsIn h 2 (off := 70) 71 hc4 dX6_count_1 (by decide) (by decide) rfl (by decide) ?_
    exact b_X6_count_71 h hR _ _
  refine g_if (fun hc5 => ?_) (fun hc5 => ?_)
  · refine g_tsIn h 3 (off := 70) 71 hc5 dX6_count_1 (by decide) (by decide) rfl (by decide) ?_
    exact b_X6_count_71 h hR _ _
  refine g_if (fun hc6 => ?_) (fun hc6 => ?_)
  · refine g_tsIn h 4 (off := 80) 81 hc6 dX6_count_1 (by decide) (by decide) rfl (by decide) ?_
    refine g_aload_n h 0 dX6_count_81 rfl rfl ?_
    refine g_bipush h (-5) dX6_count_82 (by decide) ?_
    refine g_callI h (As := [.int (-5)]) (fun t => t) (fun r t hG => c_X6_victories l ω M0 _ (-5) hG) iM_0_0 (C := RX6) (T := TX6) (N := 13) rfl 1 rfl gX6_count_X6_victories rfl rfl rfl (by decide +kernel) (by decide) (st0 := _) rfl (Nat.le_of_ble_eq_true rfl) dX6_count_84 (fun r7 T8 => ?_)
    exact g_iret hR rfl dX6_count_87
  refine g_if (fun hc9 => ?_) (fun hc9 => ?_)
  · refine g_tsIn h 5 (off := 87) 88 hc9 dX6_count_1 (by decide) (by decide) rfl (by decide) ?_
    exact b_X6_count_88 h hR _ _
  refine g_if (fun hc10 => ?_) (fun hc10 => ?_)
  · refine g_tsIn h 6 (off := 87) 88 hc10 dX6_count_1 (by decide) (by decide) rfl (by decide) ?_
    exact b_X6_count_88 h hR _ _
  refine g_if (fun hc11 => ?_) (fun hc11 => ?_)
  · refine g_tsIn h 7 (off := 87) 88 hc11 dX6_count_1 (by decide) (by decide) rfl (by decide) ?_
    exact b_X6_count_88 h hR _ _
  refine g_if (fun hc12 => ?_) (fun hc12 => ?_)
  · refine g_tsIn h 8 (off := 98) 99 hc12 dX6_count_1 (by decide) (by decide) rfl (by decide) ?_
    exact b_X6_count_99 h hR _ _
  refine g_if (fun hc13 => ?_) (fun hc13 => ?_)
  · refine g_tsIn h 9 (off := 98) 99 hc13 dX6_count_1 (by decide) (by decide) rfl (by decide) ?_
    exact b_X6_count_99 h hR _ _
  refine g_if (fun hc14 => ?_) (fun hc14 => ?_)
  · refine g_tsIn h 10 (off := 114) 115 hc14 dX6_count_1 (by decide) (by decide) rfl (by decide) ?_
    refine g_aload_n h 0 dX6_count_115 rfl rfl ?_
    refine g_getI h (v := T 0 1) (uMr M0 0 _ _ _) (index := 22) (j := 1) iM_0_0 (C := RX6) (T := TX6) (N := 13) rfl n_X6_count_6 (by decide) rfl (by decide +kernel) dX6_count_116 ?_
    refine g_ni (fun v15 => ?_)
    exact g_iret hR rfl dX6_count_119
  refine g_if (fun hc16 => ?_) (fun hc16 => ?_)
  · refine g_tsIn h 11 (off := 119) 120 hc16 dX6_count_1 (by decide) (by decide) rfl (by decide) ?_
    refine g_aload_n h 0 dX6_count_120 rfl rfl ?_
    refine g_getI h (v := T 0 4) (uMr M0 0 _ _ _) (index := 107) (j := 4) iM_0_0 (C := RX6) (T := TX6) (N := 13) rfl n_X6_count_6 (by decide) rfl (by decide +kernel) dX6_count_121 ?_
    refine g_ni (fun v17 => ?_)
    exact g_iret hR rfl dX6_count_124
  refine g_tsOut h 125 (by
      have e0 : ¬ Int32.toInt a1 = 0 := lv_neT hc1 (by decide)
      have e1 : ¬ Int32.toInt a1 = 1 := lv_neT hc3 (by decide)
      have e2 : ¬ Int32.toInt a1 = 2 := lv_neT hc4 (by decide)
      have e3 : ¬ Int32.toInt a1 = 3 := lv_neT hc5 (by decide)
      have e4 : ¬ Int32.toInt a1 = 4 := lv_neT hc6 (by decide)
      have e5 : ¬ Int32.toInt a1 = 5 := lv_neT hc9 (by decide)
      have e6 : ¬ Int32.toInt a1 = 6 := lv_neT hc10 (by decide)
      have e7 : ¬ Int32.toInt a1 = 7 := lv_neT hc11 (by decide)
      have e8 : ¬ Int32.toInt a1 = 8 := lv_neT hc12 (by decide)
      have e9 : ¬ Int32.toInt a1 = 9 := lv_neT hc13 (by decide)
      have e10 : ¬ Int32.toInt a1 = 10 := lv_neT hc14 (by decide)
      have e11 : ¬ Int32.toInt a1 = 11 := lv_neT hc16 (by decide)
      omega) dX6_count_1 (by decide) ?_
  refine g_bipush h (-2) dX6_count_125 (by decide) ?_
  exact g_iret hR rfl dX6_count_127
theorem n_X6_spare_6 : ∀ w ∈ wsX60, w ∈ wsX6_spare := by decide +kernel
set_option maxHeartbeats 4000000 in
set_option maxRecDepth 100000 in
theorem c_X6_spare (l : Launch) (ω : Wd)  (M0 : Mm) (T : Tm) (a1 : Int32) {r : Int32} {T' : Tm} (hm : m_X6_spare a1 T = some (r, T')) : MI l yX6_spare wsX6_spare ⟨1, 0, 0, 21⟩ ω LM [.ref (th ω 0 0), .int a1] (uM M0 0 T) r (uM M0 0 T') := by
  refine met_i (cc := cX6_spare) (maxL := 2) (ty := .int) (by decide +kernel) rfl (Nat.le_of_ble_eq_true rfl) LM_nd ?_
  intro Γ h hR ht
  suffices K : Gq Γ ω LM (uM M0 0) 0 [(0, .ref (th ω 0 0)), (1, .int a1)] [] T (m_X6_spare a1 T) from K (r, T') hm ht
  unfold m_X6_spare
  refine g_iconst h 4 dX6_spare_0 (by decide) ?_
  refine g_iconst h 2 dX6_spare_1 (by decide) ?_
  refine g_aload_n h 0 dX6_spare_2 rfl rfl ?_
  refine g_getR h (index := 7) (j := 0) iM_0_0 (C := RX6) (T := TX6) (N := 13) rfl n_X6_spare_6 (by decide) rfl (by decide +kernel) dX6_spare_3 ?_
  refine g_iconst h 0 dX6_spare_6 (by decide) ?_
  refine g_iload_n h 1 dX6_spare_7 rfl rfl ?_
  refine g_callP h (As := [.int 0, .int a1]) (fun r t hG => c_X6_at l ω M00 0 a1 hG) 2 rfl gX6_spare_X6_at rfl rfl rfl (by decide +kernel) (by decide) (st0 := _) rfl (Nat.le_of_ble_eq_true rfl) dX6_spare_8 (fun r1 => ?_)
  refine g_iald h (v := T 1 r1.toNatClampNeg) (uMr M0 0 _ _ _) iM_0_1 dX6_spare_11 ?_
  refine g_ni (fun v2 => ?_)
  refine g_imul h dX6_spare_12 ?_
  refine g_iadd h dX6_spare_13 ?_
  exact g_iret hR rfl dX6_spare_14
theorem n_X6_mends_6 : ∀ w ∈ wsX60, w ∈ wsX6_mends := by decide +kernel
set_option maxHeartbeats 4000000 in
set_option maxRecDepth 100000 in
theorem c_X6_mends (l : Launch) (ω : Wd)  (M0 : Mm) (T : Tm) (a1 : Int32) {r : Int32} {T' : Tm} (hm : m_X6_mends a1 T = some (r, T')) : MI l yX6_mends wsX6_mends ⟨2, 0, 0, 42⟩ ω LM [.ref (th ω 0 0), .int a1] (uM M0 0 T) r (uM M0 0 T') := by
  refine met_i (cc := cX6_mends) (maxL := 2) (ty := .int) (by decide +kernel) rfl (Nat.le_of_ble_eq_true rfl) LM_nd ?_
  intro Γ h hR ht
  suffices K : Gq Γ ω LM (uM M0 0) 0 [(0, .ref (th ω 0 0)), (1, .int a1)] [] T (m_X6_mends a1 T) from K (r, T') hm ht
  unfold m_X6_mends
  refine g_aload_n h 0 dX6_mends_0 rfl rfl ?_
  refine g_getR h (index := 7) (j := 0) iM_0_0 (C := RX6) (T := TX6) (N := 13) rfl n_X6_mends_6 (by decide) rfl (by decide +kernel) dX6_mends_1 ?_
  refine g_iconst h 0 dX6_mends_4 (by decide) ?_
  refine g_iload_n h 1 dX6_mends_5 rfl rfl ?_
  refine g_callP h (As := [.int 0, .int a1]) (fun r t hG => c_X6_at l ω M00 0 a1 hG) 2 rfl gX6_mends_X6_at rfl rfl rfl (by decide +kernel) (by decide) (st0 := _) rfl (Nat.le_of_ble_eq_true rfl) dX6_mends_6 (fun r1 => ?_)
  refine g_bipush h 6 dX6_mends_9 (by decide) ?_
  refine g_iadd h dX6_mends_11 ?_
  refine g_iconst h 0 dX6_mends_12 (by decide) ?_
  refine g_iast h (x' := wT T 1 ((r1 + 6).toNatClampNeg) 0) (wM_uM M0 0 _ _ _ _).symm iM_0_1 dX6_mends_13 ?_
  refine g_nm (fun T2 => ?_)
  refine g_aload_n h 0 dX6_mends_14 rfl rfl ?_
  refine g_getR h (index := 7) (j := 0) iM_0_0 (C := RX6) (T := TX6) (N := 13) rfl n_X6_mends_6 (by decide) rfl (by decide +kernel) dX6_mends_15 ?_
  refine g_iconst h 0 dX6_mends_18 (by decide) ?_
  refine g_iload_n h 1 dX6_mends_19 rfl rfl ?_
  refine g_callP h (As := [.int 0, .int a1]) (fun r t hG => c_X6_at l ω M00 0 a1 hG) 2 rfl gX6_mends_X6_at rfl rfl rfl (by decide +kernel) (by decide) (st0 := _) rfl (Nat.le_of_ble_eq_true rfl) dX6_mends_20 (fun r3 => ?_)
  refine g_iconst h 3 dX6_mends_23 (by decide) ?_
  refine g_iadd h dX6_mends_24 ?_
  refine g_iconst h 0 dX6_mends_25 (by decide) ?_
  refine g_iast h (x' := wT T2 1 ((r3 + 3).toNatClampNeg) 0) (wM_uM M0 0 _ _ _ _).symm iM_0_1 dX6_mends_26 ?_
  refine g_nm (fun T4 => ?_)
  refine g_aload_n h 0 dX6_mends_27 rfl rfl ?_
  refine g_getR h (index := 7) (j := 0) iM_0_0 (C := RX6) (T := TX6) (N := 13) rfl n_X6_mends_6 (by decide) rfl (by decide +kernel) dX6_mends_28 ?_
  refine g_aload_n h 0 dX6_mends_31 rfl rfl ?_
  refine g_iload_n h 1 dX6_mends_32 rfl rfl ?_
  refine g_callI h (As := [.int a1]) (fun t => t) (fun r t hG => c_X6_spare l ω M0 _ a1 hG) iM_0_0 (C := RX6) (T := TX6) (N := 13) rfl 1 rfl gX6_mends_X6_spare rfl rfl rfl (by decide +kernel) (by decide) (st0 := _) rfl (Nat.le_of_ble_eq_true rfl) dX6_mends_33 (fun r5 T6 => ?_)
  refine g_dup2 h dX6_mends_36 rfl rfl ?_
  refine g_iald h (v := T6 1 r5.toNatClampNeg) (uMr M0 0 _ _ _) iM_0_1 dX6_mends_37 ?_
  refine g_ni (fun v7 => ?_)
  refine g_iconst h 1 dX6_mends_38 (by decide) ?_
  refine g_isub h dX6_mends_39 ?_
  refine g_iast h (x' := wT T6 1 r5.toNatClampNeg (v7 - 1)) (wM_uM M0 0 _ _ _ _).symm iM_0_1 dX6_mends_40 ?_
  refine g_nm (fun T8 => ?_)
  refine g_aload_n h 0 dX6_mends_41 rfl rfl ?_
  refine g_getR h (index := 7) (j := 0) iM_0_0 (C := RX6) (T := TX6) (N := 13) rfl n_X6_mends_6 (by decide) rfl (by decide +kernel) dX6_mends_42 ?_
  refine g_aload_n h 0 dX6_mends_45 rfl rfl ?_
  refine g_iload_n h 1 dX6_mends_46 rfl rfl ?_
  refine g_callI h (As := [.int a1]) (fun t => t) (fun r t hG => c_X6_spare l ω M0 _ a1 hG) iM_0_0 (C := RX6) (T := TX6) (N := 13) rfl 1 rfl gX6_mends_X6_spare rfl rfl rfl (by decide +kernel) (by decide) (st0 := _) rfl (Nat.le_of_ble_eq_true rfl) dX6_mends_47 (fun r9 T10 => ?_)
  refine g_iald h (v := T10 1 r9.toNatClampNeg) (uMr M0 0 _ _ _) iM_0_1 dX6_mends_50 ?_
  refine g_ni (fun v11 => ?_)
  exact g_iret hR rfl dX6_mends_51
theorem n_X6_stamps_6 : ∀ w ∈ wsX60, w ∈ wsX6_stamps := by decide +kernel
set_option maxHeartbeats 4000000 in
set_option maxRecDepth 100000 in
theorem c_X6_stamps (l : Launch) (ω : Wd)  (M0 : Mm) (T : Tm) (a1 : Int32) {r : Int32} {T' : Tm} (hm : m_X6_stamps a1 T = some (r, T')) : MI l yX6_stamps wsX6_stamps ⟨1, 0, 0, 22⟩ ω LM [.ref (th ω 0 0), .int a1] (uM M0 0 T) r (uM M0 0 T') := by
  refine met_i (cc := cX6_stamps) (maxL := 3) (ty := .int) (by decide +kernel) rfl (Nat.le_of_ble_eq_true rfl) LM_nd ?_
  intro Γ h hR ht
  suffices K : Gq Γ ω LM (uM M0 0) 0 [(0, .ref (th ω 0 0)), (1, .int a1)] [] T (m_X6_stamps a1 T) from K (r, T') hm ht
  unfold m_X6_stamps
  refine g_aload_n h 0 dX6_stamps_0 rfl rfl ?_
  refine g_getR h (index := 7) (j := 0) iM_0_0 (C := RX6) (T := TX6) (N := 13) rfl n_X6_stamps_6 (by decide) rfl (by decide +kernel) dX6_stamps_1 ?_
  refine g_iconst h 0 dX6_stamps_4 (by decide) ?_
  refine g_iload_n h 1 dX6_stamps_5 rfl rfl ?_
  refine g_callP h (As := [.int 0, .int a1]) (fun r t hG => c_X6_at l ω M00 0 a1 hG) 2 rfl gX6_stamps_X6_at rfl rfl rfl (by decide +kernel) (by decide) (st0 := _) rfl (Nat.le_of_ble_eq_true rfl) dX6_stamps_6 (fun r1 => ?_)
  refine g_iconst h 4 dX6_stamps_9 (by decide) ?_
  refine g_iadd h dX6_stamps_10 ?_
  refine g_iald h (v := T 1 ((r1 + 4).toNatClampNeg)) (uMr M0 0 _ _ _) iM_0_1 dX6_stamps_11 ?_
  refine g_ni (fun v2 => ?_)
  refine g_istore_n h rfl (lv' := [(2, .int v2), (0, .ref (th ω 0 0)), (1, .int a1)]) dX6_stamps_12 (by decide) [0, 1, 2] rfl ?_
  refine g_aload_n h 1 dX6_stamps_13 rfl rfl ?_
  refine g_getR h (index := 7) (j := 0) iM_0_0 (C := RX6) (T := TX6) (N := 13) rfl n_X6_stamps_6 (by decide) rfl (by decide +kernel) dX6_stamps_14 ?_
  refine g_iconst h 1 dX6_stamps_17 (by decide) ?_
  refine g_dup2 h dX6_stamps_18 rfl rfl ?_
  refine g_iald h (v := T 1 ((1 : Int32).toNatClampNeg)) (uMr M0 0 _ _ _) iM_0_1 dX6_stamps_19 ?_
  refine g_ni (fun v3 => ?_)
  refine g_iload_n h 0 dX6_stamps_20 rfl rfl ?_
  refine g_iadd h dX6_stamps_21 ?_
  refine g_iast h (x' := wT T 1 ((1 : Int32).toNatClampNeg) (v3 + v2)) (wM_uM M0 0 _ _ _ _).symm iM_0_1 dX6_stamps_22 ?_
  refine g_nm (fun T4 => ?_)
  refine g_aload_n h 1 dX6_stamps_23 rfl rfl ?_
  refine g_iconst h 0 dX6_stamps_24 (by decide) ?_
  refine g_iload_n h 2 dX6_stamps_25 rfl rfl ?_
  refine g_callP h (As := [.int 0, .int a1]) (fun r t hG => c_X6_at l ω M00 0 a1 hG) 2 rfl gX6_stamps_X6_at rfl rfl rfl (by decide +kernel) (by decide) (st0 := _) rfl (Nat.le_of_ble_eq_true rfl) dX6_stamps_26 (fun r5 => ?_)
  refine g_bipush h (-5) dX6_stamps_29 (by decide) ?_
  refine g_callV h (As := [.int r5, .int (-5)]) (fun t => t) (fun r t hG => c_X6_smashes l ω M0 _ r5 (-5) hG) iM_0_0 (C := RX6) (T := TX6) (N := 13) rfl 2 rfl gX6_stamps_X6_smashes rfl rfl rfl (by decide +kernel) (by decide) (st0 := _) rfl (Nat.le_of_ble_eq_true rfl) dX6_stamps_31 (fun r6 T7 => ?_)
  refine g_iload_n h 0 dX6_stamps_34 rfl rfl ?_
  exact g_iret hR rfl dX6_stamps_35
theorem n_X6_does_6 : ∀ w ∈ wsX60, w ∈ wsX6_does := by decide +kernel
set_option maxHeartbeats 4000000 in
set_option maxRecDepth 100000 in
theorem c_X6_does (l : Launch) (ω : Wd)  (M0 : Mm) (T : Tm) {r : Int32} {T' : Tm} (hm : m_X6_does T = some (r, T')) : MI l yX6_does wsX6_does ⟨3, 0, 0, 63⟩ ω LM [.ref (th ω 0 0)] (uM M0 0 T) r (uM M0 0 T') := by
  refine met_i (cc := cX6_does) (maxL := 1) (ty := .int) (by decide +kernel) rfl (Nat.le_of_ble_eq_true rfl) LM_nd ?_
  intro Γ h hR ht
  suffices K : Gq Γ ω LM (uM M0 0) 0 [(0, .ref (th ω 0 0))] [] T (m_X6_does T) from K (r, T') hm ht
  unfold m_X6_does
  refine g_aload_n h 0 dX6_does_0 rfl rfl ?_
  refine g_getI h (v := T 0 9) (uMr M0 0 _ _ _) (index := 120) (j := 9) iM_0_0 (C := RX6) (T := TX6) (N := 13) rfl n_X6_does_6 (by decide) rfl (by decide +kernel) dX6_does_1 ?_
  refine g_ni (fun v1 => ?_)
  refine g_bipush h 116 dX6_does_4 (by decide) ?_
  refine g_icmp_ne h 20 dX6_does_6 (by decide) (fun hc2 => ?_) (fun hc2 => ?_)
  · skip
    refine g_aload_n h 0 dX6_does_9 rfl rfl ?_
    refine g_aload_n h 0 dX6_does_10 rfl rfl ?_
    refine g_getI h (v := T 0 10) (uMr M0 0 _ _ _) (index := 126) (j := 10) iM_0_0 (C := RX6) (T := TX6) (N := 13) rfl n_X6_does_6 (by decide) rfl (by decide +kernel) dX6_does_11 ?_
    refine g_ni (fun v3 => ?_)
    refine g_callI h (As := [.int v3]) (fun t => t) (fun r t hG => c_X6_mends l ω M0 _ v3 hG) iM_0_0 (C := RX6) (T := TX6) (N := 13) rfl 1 rfl gX6_does_X6_mends rfl rfl rfl (by decide +kernel) (by decide) (st0 := _) rfl (Nat.le_of_ble_eq_true rfl) dX6_does_14 (fun r4 T5 => ?_)
    refine g_goto h (tgt := 57) dX6_does_17 (by decide) ?_
    exact g_iret hR rfl dX6_does_57
  · skip
    refine g_aload_n h 0 dX6_does_20 rfl rfl ?_
    refine g_getI h (v := T 0 9) (uMr M0 0 _ _ _) (index := 120) (j := 9) iM_0_0 (C := RX6) (T := TX6) (N := 13) rfl n_X6_does_6 (by decide) rfl (by decide +kernel) dX6_does_21 ?_
    refine g_ni (fun v6 => ?_)
    refine g_bipush h 115 dX6_does_24 (by decide) ?_
    refine g_icmp_ne h 40 dX6_does_26 (by decide) (fun hc7 => ?_) (fun hc7 => ?_)
    · skip
      refine g_aload_n h 0 dX6_does_29 rfl rfl ?_
      refine g_aload_n h 0 dX6_does_30 rfl rfl ?_
      refine g_getI h (v := T 0 10) (uMr M0 0 _ _ _) (index := 126) (j := 10) iM_0_0 (C := RX6) (T := TX6) (N := 13) rfl n_X6_does_6 (by decide) rfl (by decide +kernel) dX6_does_31 ?_
      refine g_ni (fun v8 => ?_)
      refine g_callI h (As := [.int v8]) (fun t => t) (fun r t hG => c_X6_stamps l ω M0 _ v8 hG) iM_0_0 (C := RX6) (T := TX6) (N := 13) rfl 1 rfl gX6_does_X6_stamps rfl rfl rfl (by decide +kernel) (by decide) (st0 := _) rfl (Nat.le_of_ble_eq_true rfl) dX6_does_34 (fun r9 T10 => ?_)
      refine g_goto h (tgt := 57) dX6_does_37 (by decide) ?_
      exact g_iret hR rfl dX6_does_57
    · skip
      refine g_aload_n h 0 dX6_does_40 rfl rfl ?_
      refine g_iconst h 0 dX6_does_41 (by decide) ?_
      refine g_aload_n h 0 dX6_does_42 rfl rfl ?_
      refine g_getI h (v := T 0 10) (uMr M0 0 _ _ _) (index := 126) (j := 10) iM_0_0 (C := RX6) (T := TX6) (N := 13) rfl n_X6_does_6 (by decide) rfl (by decide +kernel) dX6_does_43 ?_
      refine g_ni (fun v11 => ?_)
      refine g_aload_n h 0 dX6_does_46 rfl rfl ?_
      refine g_getI h (v := T 0 11) (uMr M0 0 _ _ _) (index := 129) (j := 11) iM_0_0 (C := RX6) (T := TX6) (N := 13) rfl n_X6_does_6 (by decide) rfl (by decide +kernel) dX6_does_47 ?_
      refine g_ni (fun v12 => ?_)
      refine g_aload_n h 0 dX6_does_50 rfl rfl ?_
      refine g_getI h (v := T 0 12) (uMr M0 0 _ _ _) (index := 132) (j := 12) iM_0_0 (C := RX6) (T := TX6) (N := 13) rfl n_X6_does_6 (by decide) rfl (by decide +kernel) dX6_does_51 ?_
      refine g_ni (fun v13 => ?_)
      refine g_callI h (As := [.int 0, .int v11, .int v12, .int v13]) (fun t => t) (fun r t hG => c_X6_strikes l ω M0 _ 0 v11 v12 v13 hG) iM_0_0 (C := RX6) (T := TX6) (N := 13) rfl 4 rfl gX6_does_X6_strikes rfl rfl rfl (by decide +kernel) (by decide) (st0 := _) rfl (Nat.le_of_ble_eq_true rfl) dX6_does_54 (fun r14 T15 => ?_)
      exact g_iret hR rfl dX6_does_57
set_option maxHeartbeats 4000000 in
set_option maxRecDepth 100000 in
theorem c_X6_isPlayer (l : Launch) (ω : Wd)  (M : Mm) (a0 : Int32) {r : Int32} {M' : Mm} (hm : m_X6_isPlayer a0 M = some (r, M')) : MI l yX6_isPlayer wsX6_isPlayer ⟨1, 0, 0, 22⟩ ω L00 [.int a0] M r M' := by
  refine met_i (cc := cX6_isPlayer) (maxL := 1) (ty := .boolean) (by decide +kernel) rfl (Nat.le_of_ble_eq_true rfl) L00_nd ?_
  intro Γ h hR ht
  suffices K : Gq Γ ω L00 eI 0 [(0, .int a0)] [] M (m_X6_isPlayer a0 M) from K (r, M') hm ht
  unfold m_X6_isPlayer
  refine g_iload_n h 0 dX6_isPlayer_0 rfl rfl ?_
  refine g_iconst h 0 dX6_isPlayer_1 (by decide) ?_
  refine g_iconst h 5 dX6_isPlayer_2 (by decide) ?_
  refine g_callP h (As := [.int a0, .int 0, .int 5]) (fun r t hG => c_X6_in l ω M00 a0 0 5 hG) 3 rfl gX6_isPlayer_X6_in rfl rfl rfl (by decide +kernel) (by decide) (st0 := _) rfl (Nat.le_of_ble_eq_true rfl) dX6_isPlayer_3 (fun r1 => ?_)
  exact g_nret hR (fun _ => rfl) dX6_isPlayer_6
theorem n_X6_doubt_6 : ∀ w ∈ wsX60, w ∈ wsX6_doubt := by decide +kernel
set_option maxHeartbeats 4000000 in
set_option maxRecDepth 100000 in
theorem b_X6_doubt_85 {Γ : Cx} {l : Launch} {ω : Wd} {M0 : Mm}  (h : CxOk Γ l ⟨2, 0, 0, 44⟩ 5 ω LM cX6_doubt yX6_doubt.cls wsX6_doubt) (hR : RetI Γ ω LM cX6_doubt .int) : ∀ (b3 : Int32) (s0 : Int32) (T : Tm), Gq Γ ω LM (uM M0 0) 85 [(0, .ref (th ω 0 0)), (3, .int b3)] [.int s0] T (m_X6_doubt_85 b3 s0 T) := by
  intro b3 s0 T
  unfold m_X6_doubt_85
  refine g_istore h (lv' := [(4, .int s0), (0, .ref (th ω 0 0)), (3, .int b3)]) dX6_doubt_85 (by decide) [0, 1, 2] rfl ?_
  refine g_aload_n h 1 dX6_doubt_87 rfl rfl ?_
  refine g_getR h (index := 7) (j := 0) iM_0_0 (C := RX6) (T := TX6) (N := 13) rfl n_X6_doubt_6 (by decide) rfl (by decide +kernel) dX6_doubt_88 ?_
  refine g_iconst h 4 dX6_doubt_91 (by decide) ?_
  refine g_iconst h 2 dX6_doubt_92 (by decide) ?_
  refine g_iload h 0 dX6_doubt_93 rfl ?_
  refine g_imul h dX6_doubt_95 ?_
  refine g_iadd h dX6_doubt_96 ?_
  refine g_iconst h 1 dX6_doubt_97 (by decide) ?_
  refine g_iadd h dX6_doubt_98 ?_
  refine g_dup2 h dX6_doubt_99 rfl rfl ?_
  refine g_iald h (v := T 1 (((4 + (2 * s0)) + 1).toNatClampNeg)) (uMr M0 0 _ _ _) iM_0_1 dX6_doubt_100 ?_
  refine g_ni (fun v1 => ?_)
  refine g_iconst h 1 dX6_doubt_101 (by decide) ?_
  refine g_iadd h dX6_doubt_102 ?_
  refine g_iast h (x' := wT T 1 (((4 + (2 * s0)) + 1).toNatClampNeg) (v1 + 1)) (wM_uM M0 0 _ _ _ _).symm iM_0_1 dX6_doubt_103 ?_
  refine g_nm (fun T2 => ?_)
  refine g_aload_n h 1 dX6_doubt_104 rfl rfl ?_
  refine g_getR h (index := 7) (j := 0) iM_0_0 (C := RX6) (T := TX6) (N := 13) rfl n_X6_doubt_6 (by decide) rfl (by decide +kernel) dX6_doubt_105 ?_
  refine g_iload_n h 2 dX6_doubt_108 rfl rfl ?_
  refine g_iconst h 5 dX6_doubt_109 (by decide) ?_
  refine g_iadd h dX6_doubt_110 ?_
  refine g_bipush h (-5) dX6_doubt_111 (by decide) ?_
  refine g_iast h (x' := wT T2 1 ((b3 + 5).toNatClampNeg) (-5)) (wM_uM M0 0 _ _ _ _).symm iM_0_1 dX6_doubt_113 ?_
  refine g_nm (fun T3 => ?_)
  refine g_iload h 0 dX6_doubt_114 rfl ?_
  exact g_iret hR rfl dX6_doubt_116
set_option maxHeartbeats 4000000 in
set_option maxRecDepth 100000 in
theorem c_X6_doubt (l : Launch) (ω : Wd)  (M0 : Mm) (T : Tm) (a1 : Int32) (a2 : Int32) {r : Int32} {T' : Tm} (hm : m_X6_doubt a1 a2 T = some (r, T')) : MI l yX6_doubt wsX6_doubt ⟨2, 0, 0, 44⟩ ω LM [.ref (th ω 0 0), .int a1, .int a2] (uM M0 0 T) r (uM M0 0 T') := by
  refine met_i (cc := cX6_doubt) (maxL := 5) (ty := .int) (by decide +kernel) rfl (Nat.le_of_ble_eq_true rfl) LM_nd ?_
  intro Γ h hR ht
  suffices K : Gq Γ ω LM (uM M0 0) 0 [(0, .ref (th ω 0 0)), (1, .int a1), (2, .int a2)] [] T (m_X6_doubt a1 a2 T) from K (r, T') hm ht
  unfold m_X6_doubt
  refine g_iload_n h 1 dX6_doubt_0 rfl rfl ?_
  refine g_callP h (As := [.int a1]) (fun r t hG => c_X6_isPlayer l ω M00 a1 hG) 1 rfl gX6_doubt_X6_isPlayer rfl rfl rfl (by decide +kernel) (by decide) (st0 := _) rfl (Nat.le_of_ble_eq_true rfl) dX6_doubt_1 (fun r1 => ?_)
  refine g_if_eq h 15 dX6_doubt_4 (by decide) (fun hc2 => ?_) (fun hc2 => ?_)
  · skip
    refine g_iconst h (-1) dX6_doubt_15 (by decide) ?_
    exact g_iret hR rfl dX6_doubt_16
  · skip
    refine g_aload_n h 0 dX6_doubt_7 rfl rfl ?_
    refine g_iload_n h 2 dX6_doubt_8 rfl rfl ?_
    refine g_callI h (As := [.int a2]) (fun t => t) (fun r t hG => c_X6_isConker l ω M0 _ a2 hG) iM_0_0 (C := RX6) (T := TX6) (N := 13) rfl 1 rfl gX6_doubt_X6_isConker rfl rfl rfl (by decide +kernel) (by decide) (st0 := _) rfl (Nat.le_of_ble_eq_true rfl) dX6_doubt_9 (fun r3 T4 => ?_)
    refine g_if_ne h 17 dX6_doubt_12 (by decide) (fun hc5 => ?_) (fun hc5 => ?_)
    · skip
      refine g_iconst h (-1) dX6_doubt_15 (by decide) ?_
      exact g_iret hR rfl dX6_doubt_16
    · skip
      refine g_iconst h 0 dX6_doubt_17 (by decide) ?_
      refine g_iload_n h 2 dX6_doubt_18 rfl rfl ?_
      refine g_callP h (As := [.int 0, .int a2]) (fun r t hG => c_X6_at l ω M00 0 a2 hG) 2 rfl gX6_doubt_X6_at rfl rfl rfl (by decide +kernel) (by decide) (st0 := _) rfl (Nat.le_of_ble_eq_true rfl) dX6_doubt_19 (fun r6 => ?_)
      refine g_istore_n h rfl (lv' := [(3, .int r6), (0, .ref (th ω 0 0)), (1, .int a1), (2, .int a2)]) dX6_doubt_22 (by decide) [0, 1, 2, 3] rfl ?_
      refine g_aload_n h 1 dX6_doubt_23 rfl rfl ?_
      refine g_getR h (index := 7) (j := 0) iM_0_0 (C := RX6) (T := TX6) (N := 13) rfl n_X6_doubt_6 (by decide) rfl (by decide +kernel) dX6_doubt_24 ?_
      refine g_iload_n h 0 dX6_doubt_27 rfl rfl ?_
      refine g_iald h (v := T4 1 r6.toNatClampNeg) (uMr M0 0 _ _ _) iM_0_1 dX6_doubt_28 ?_
      refine g_ni (fun v7 => ?_)
      refine g_iload_n h 2 dX6_doubt_29 rfl rfl ?_
      refine g_icmp_ne h 36 dX6_doubt_30 (by decide) (fun hc8 => ?_) (fun hc8 => ?_)
      · skip
        refine g_bipush h (-2) dX6_doubt_33 (by decide) ?_
        exact g_iret hR rfl dX6_doubt_35
      · skip
        refine g_aload_n h 1 dX6_doubt_36 rfl rfl ?_
        refine g_getR h (index := 7) (j := 0) iM_0_0 (C := RX6) (T := TX6) (N := 13) rfl n_X6_doubt_6 (by decide) rfl (by decide +kernel) dX6_doubt_37 ?_
        refine g_iload_n h 0 dX6_doubt_40 rfl rfl ?_
        refine g_iconst h 5 dX6_doubt_41 (by decide) ?_
        refine g_iadd h dX6_doubt_42 ?_
        refine g_iald h (v := T4 1 ((r6 + 5).toNatClampNeg)) (uMr M0 0 _ _ _) iM_0_1 dX6_doubt_43 ?_
        refine g_ni (fun v9 => ?_)
        refine g_bipush h (-5) dX6_doubt_44 (by decide) ?_
        refine g_icmp_ne h 52 dX6_doubt_46 (by decide) (fun hc10 => ?_) (fun hc10 => ?_)
        · skip
          refine g_bipush h (-4) dX6_doubt_49 (by decide) ?_
          exact g_iret hR rfl dX6_doubt_51
        · skip
          refine g_aload_n h 1 dX6_doubt_52 rfl rfl ?_
          refine g_callV h (As := []) (fun t => t) (fun r t hG => c_X6_records l ω M0 _ hG) iM_0_0 (C := RX6) (T := TX6) (N := 13) rfl 0 rfl gX6_doubt_X6_records rfl rfl rfl (by decide +kernel) (by decide) (st0 := _) rfl (Nat.le_of_ble_eq_true rfl) dX6_doubt_53 (fun r11 T12 => ?_)
          refine g_aload_n h 1 dX6_doubt_56 rfl rfl ?_
          refine g_getR h (index := 7) (j := 0) iM_0_0 (C := RX6) (T := TX6) (N := 13) rfl n_X6_doubt_6 (by decide) rfl (by decide +kernel) dX6_doubt_57 ?_
          refine g_iload_n h 0 dX6_doubt_60 rfl rfl ?_
          refine g_iconst h 5 dX6_doubt_61 (by decide) ?_
          refine g_iadd h dX6_doubt_62 ?_
          refine g_iald h (v := T12 1 ((r6 + 5).toNatClampNeg)) (uMr M0 0 _ _ _) iM_0_1 dX6_doubt_63 ?_
          refine g_ni (fun v13 => ?_)
          refine g_aload_n h 1 dX6_doubt_64 rfl rfl ?_
          refine g_getR h (index := 7) (j := 0) iM_0_0 (C := RX6) (T := TX6) (N := 13) rfl n_X6_doubt_6 (by decide) rfl (by decide +kernel) dX6_doubt_65 ?_
          refine g_iload_n h 0 dX6_doubt_68 rfl rfl ?_
          refine g_iconst h 4 dX6_doubt_69 (by decide) ?_
          refine g_iadd h dX6_doubt_70 ?_
          refine g_iald h (v := T12 1 ((r6 + 4).toNatClampNeg)) (uMr M0 0 _ _ _) iM_0_1 dX6_doubt_71 ?_
          refine g_ni (fun v14 => ?_)
          refine g_icmp_le h 84 dX6_doubt_72 (by decide) (fun hc15 => ?_) (fun hc15 => ?_)
          · skip
            refine g_iload_n h 2 dX6_doubt_84 rfl rfl ?_
            refine g_sub (lv' := [(0, .ref (th ω 0 0)), (3, .int r6)]) [1, 0] rfl ?_
            exact b_X6_doubt_85 h hR _ _ _
          · skip
            refine g_aload_n h 1 dX6_doubt_75 rfl rfl ?_
            refine g_getR h (index := 7) (j := 0) iM_0_0 (C := RX6) (T := TX6) (N := 13) rfl n_X6_doubt_6 (by decide) rfl (by decide +kernel) dX6_doubt_76 ?_
            refine g_iload_n h 0 dX6_doubt_79 rfl rfl ?_
            refine g_iald h (v := T12 1 r6.toNatClampNeg) (uMr M0 0 _ _ _) iM_0_1 dX6_doubt_80 ?_
            refine g_ni (fun v16 => ?_)
            refine g_goto h (tgt := 85) dX6_doubt_81 (by decide) ?_
            refine g_sub (lv' := [(0, .ref (th ω 0 0)), (3, .int r6)]) [1, 0] rfl ?_
            exact b_X6_doubt_85 h hR _ _ _
theorem n_X6_isHere_6 : ∀ w ∈ wsX60, w ∈ wsX6_isHere := by decide +kernel
set_option maxHeartbeats 4000000 in
set_option maxRecDepth 100000 in
theorem c_X6_isHere (l : Launch) (ω : Wd)  (M0 : Mm) (T : Tm) (a1 : Int32) (a2 : Int32) {r : Int32} {T' : Tm} (hm : m_X6_isHere a1 a2 T = some (r, T')) : MI l yX6_isHere wsX6_isHere ⟨1, 0, 0, 22⟩ ω LM [.ref (th ω 0 0), .int a1, .int a2] (uM M0 0 T) r (uM M0 0 T') := by
  refine met_i (cc := cX6_isHere) (maxL := 3) (ty := .boolean) (by decide +kernel) rfl (Nat.le_of_ble_eq_true rfl) LM_nd ?_
  intro Γ h hR ht
  suffices K : Gq Γ ω LM (uM M0 0) 0 [(0, .ref (th ω 0 0)), (1, .int a1), (2, .int a2)] [] T (m_X6_isHere a1 a2 T) from K (r, T') hm ht
  unfold m_X6_isHere
  refine g_aload_n h 0 dX6_isHere_0 rfl rfl ?_
  refine g_getI h (v := T 0 8) (uMr M0 0 _ _ _) (index := 110) (j := 8) iM_0_0 (C := RX6) (T := TX6) (N := 13) rfl n_X6_isHere_6 (by decide) rfl (by decide +kernel) dX6_isHere_1 ?_
  refine g_ni (fun v1 => ?_)
  refine g_aload_n h 0 dX6_isHere_4 rfl rfl ?_
  refine g_getI h (v := T 0 4) (uMr M0 0 _ _ _) (index := 107) (j := 4) iM_0_0 (C := RX6) (T := TX6) (N := 13) rfl n_X6_isHere_6 (by decide) rfl (by decide +kernel) dX6_isHere_5 ?_
  refine g_ni (fun v2 => ?_)
  refine g_icmp_ge h 32 dX6_isHere_8 (by decide) (fun hc3 => ?_) (fun hc3 => ?_)
  · skip
    refine g_iconst h 0 dX6_isHere_32 (by decide) ?_
    exact g_iret hR (by decide) dX6_isHere_33
  · skip
    refine g_aload_n h 0 dX6_isHere_11 rfl rfl ?_
    refine g_getR h (index := 13) (j := 3) iM_0_0 (C := RX6) (T := TX6) (N := 13) rfl n_X6_isHere_6 (by decide) rfl (by decide +kernel) dX6_isHere_12 ?_
    refine g_aload_n h 0 dX6_isHere_15 rfl rfl ?_
    refine g_getI h (v := T 0 8) (uMr M0 0 _ _ _) (index := 110) (j := 8) iM_0_0 (C := RX6) (T := TX6) (N := 13) rfl n_X6_isHere_6 (by decide) rfl (by decide +kernel) dX6_isHere_16 ?_
    refine g_ni (fun v4 => ?_)
    refine g_iald h (v := T 2 v4.toNatClampNeg) (uMr M0 0 _ _ _) iM_0_2 dX6_isHere_19 ?_
    refine g_ni (fun v5 => ?_)
    refine g_iload_n h 1 dX6_isHere_20 rfl rfl ?_
    refine g_iload_n h 2 dX6_isHere_21 rfl rfl ?_
    refine g_callP h (As := [.int v5, .int a1, .int a2]) (fun r t hG => c_X6_in l ω M00 v5 a1 a2 hG) 3 rfl gX6_isHere_X6_in rfl rfl rfl (by decide +kernel) (by decide) (st0 := _) rfl (Nat.le_of_ble_eq_true rfl) dX6_isHere_22 (fun r6 => ?_)
    refine g_if_eq h 32 dX6_isHere_25 (by decide) (fun hc7 => ?_) (fun hc7 => ?_)
    · skip
      refine g_iconst h 0 dX6_isHere_32 (by decide) ?_
      exact g_iret hR (by decide) dX6_isHere_33
    · skip
      refine g_iconst h 1 dX6_isHere_28 (by decide) ?_
      refine g_goto h (tgt := 33) dX6_isHere_29 (by decide) ?_
      exact g_iret hR (by decide) dX6_isHere_33
theorem n_X6_takes_6 : ∀ w ∈ wsX60, w ∈ wsX6_takes := by decide +kernel
set_option maxHeartbeats 4000000 in
set_option maxRecDepth 100000 in
theorem c_X6_takes (l : Launch) (ω : Wd)  (M0 : Mm) (T : Tm) (a1 : Int32) {r : Int32} {T' : Tm} (hm : m_X6_takes a1 T = some (r, T')) : MI l yX6_takes wsX6_takes ⟨2, 0, 0, 44⟩ ω LM [.ref (th ω 0 0), .int a1] (uM M0 0 T) r (uM M0 0 T') := by
  refine met_i (cc := cX6_takes) (maxL := 3) (ty := .boolean) (by decide +kernel) rfl (Nat.le_of_ble_eq_true rfl) LM_nd ?_
  intro Γ h hR ht
  suffices K : Gq Γ ω LM (uM M0 0) 0 [(0, .ref (th ω 0 0)), (1, .int a1)] [] T (m_X6_takes a1 T) from K (r, T') hm ht
  unfold m_X6_takes
  refine g_aload_n h 0 dX6_takes_0 rfl rfl ?_
  refine g_iload_n h 1 dX6_takes_1 rfl rfl ?_
  refine g_iload_n h 1 dX6_takes_2 rfl rfl ?_
  refine g_callI h (As := [.int a1, .int a1]) (fun t => t) (fun r t hG => c_X6_isHere l ω M0 _ a1 a1 hG) iM_0_0 (C := RX6) (T := TX6) (N := 13) rfl 2 rfl gX6_takes_X6_isHere rfl rfl rfl (by decide +kernel) (by decide) (st0 := _) rfl (Nat.le_of_ble_eq_true rfl) dX6_takes_3 (fun r1 T2 => ?_)
  refine g_istore_n h rfl (lv' := [(2, .int r1), (0, .ref (th ω 0 0)), (1, .int a1)]) dX6_takes_6 (by decide) [0, 1, 2] rfl ?_
  refine g_aload_n h 1 dX6_takes_7 rfl rfl ?_
  refine g_dup h dX6_takes_8 rfl ?_
  refine g_getI h (v := T2 0 8) (uMr M0 0 _ _ _) (index := 110) (j := 8) iM_0_0 (C := RX6) (T := TX6) (N := 13) rfl n_X6_takes_6 (by decide) rfl (by decide +kernel) dX6_takes_9 ?_
  refine g_ni (fun v3 => ?_)
  refine g_iload_n h 0 dX6_takes_12 rfl rfl ?_
  refine g_callP h (As := [.int r1]) (fun r t hG => c_X6_flag l ω M00 r1 hG) 1 rfl gX6_takes_X6_flag rfl rfl rfl (by decide +kernel) (by decide) (st0 := _) rfl (Nat.le_of_ble_eq_true rfl) dX6_takes_13 (fun r4 => ?_)
  refine g_iadd h dX6_takes_16 ?_
  refine g_putI h (x' := wT T2 0 8 (v3 + r4)) (wM_uM M0 0 _ _ _ _).symm (index := 110) (j := 8) iM_0_0 (C := RX6) (T := TX6) (N := 13) rfl n_X6_takes_6 tyX6_ok nmX6 (by decide) rfl (by decide +kernel) rfl (ty := .int) (by decide +kernel) rfl rfl dX6_takes_17 ?_
  refine g_nm (fun T5 => ?_)
  refine g_iload_n h 0 dX6_takes_20 rfl rfl ?_
  exact g_nret hR (fun _ => rfl) dX6_takes_21
theorem n_X6_number_6 : ∀ w ∈ wsX60, w ∈ wsX6_number := by decide +kernel
set_option maxHeartbeats 4000000 in
set_option maxRecDepth 100000 in
theorem b_X6_number_100 {Γ : Cx} {l : Launch} {ω : Wd} {M0 : Mm}  (h : CxOk Γ l ⟨2, 0, 0, 44⟩ 2 ω LM cX6_number yX6_number.cls wsX6_number) (hR : RetI Γ ω LM cX6_number .int) : ∀ (b1 : Int32) (T : Tm), Gq Γ ω LM (uM M0 0) 100 [(1, .int b1)] [] T (m_X6_number_100 b1 T) := by
  intro b1 T
  unfold m_X6_number_100
  refine g_iload_n h 0 dX6_number_100 rfl rfl ?_
  exact g_iret hR rfl dX6_number_101
set_option maxHeartbeats 4000000 in
set_option maxRecDepth 100000 in
theorem b_X6_number_45 {Γ : Cx} {l : Launch} {ω : Wd} {M0 : Mm}  (h : CxOk Γ l ⟨2, 0, 0, 44⟩ 2 ω LM cX6_number yX6_number.cls wsX6_number) (hR : RetI Γ ω LM cX6_number .int) : ∀ (b1 : Int32) (s1 : Int32) (s2 : Int32) (T : Tm), Gq Γ ω LM (uM M0 0) 45 [(0, .ref (th ω 0 0)), (1, .int b1)] [.int s2, .int s1, .ref (th ω 0 0)] T (m_X6_number_45 b1 s1 s2 T) := by
  intro b1 s1 s2 T
  unfold m_X6_number_45
  refine g_callP h (As := [.int s2]) (fun r t hG => c_X6_flag l ω M00 s2 hG) 1 rfl gX6_number_X6_flag rfl rfl rfl (by decide +kernel) (by decide) (st0 := _) rfl (Nat.le_of_ble_eq_true rfl) dX6_number_45 (fun r1 => ?_)
  refine g_iadd h dX6_number_48 ?_
  refine g_putI h (x' := wT T 0 8 (s1 + r1)) (wM_uM M0 0 _ _ _ _).symm (index := 110) (j := 8) iM_0_0 (C := RX6) (T := TX6) (N := 13) rfl n_X6_number_6 tyX6_ok nmX6 (by decide) rfl (by decide +kernel) rfl (ty := .int) (by decide +kernel) rfl rfl dX6_number_49 ?_
  refine g_nm (fun T2 => ?_)
  refine g_iload_n h 1 dX6_number_52 rfl rfl ?_
  refine g_iconst h 1 dX6_number_53 (by decide) ?_
  refine g_iconst h 2 dX6_number_54 (by decide) ?_
  refine g_callP h (As := [.int b1, .int 1, .int 2]) (fun r t hG => c_X6_in l ω M00 b1 1 2 hG) 3 rfl gX6_number_X6_in rfl rfl rfl (by decide +kernel) (by decide) (st0 := _) rfl (Nat.le_of_ble_eq_true rfl) dX6_number_55 (fun r3 => ?_)
  refine g_if_eq h 100 dX6_number_58 (by decide) (fun hc4 => ?_) (fun hc4 => ?_)
  · skip
    refine g_sub (lv' := [(1, .int b1)]) [1] rfl ?_
    exact b_X6_number_100 h hR _ _
  · skip
    refine g_aload_n h 0 dX6_number_61 rfl rfl ?_
    refine g_bipush h 48 dX6_number_62 (by decide) ?_
    refine g_bipush h 57 dX6_number_64 (by decide) ?_
    refine g_callI h (As := [.int 48, .int 57]) (fun t => t) (fun r t hG => c_X6_isHere l ω M0 _ 48 57 hG) iM_0_0 (C := RX6) (T := TX6) (N := 13) rfl 2 rfl gX6_number_X6_isHere rfl rfl rfl (by decide +kernel) (by decide) (st0 := _) rfl (Nat.le_of_ble_eq_true rfl) dX6_number_66 (fun r5 T6 => ?_)
    refine g_if_eq h 100 dX6_number_69 (by decide) (fun hc7 => ?_) (fun hc7 => ?_)
    · skip
      refine g_sub (lv' := [(1, .int b1)]) [1] rfl ?_
      exact b_X6_number_100 h hR _ _
    · skip
      refine g_bipush h 10 dX6_number_72 (by decide) ?_
      refine g_iload_n h 1 dX6_number_74 rfl rfl ?_
      refine g_imul h dX6_number_75 ?_
      refine g_aload_n h 0 dX6_number_76 rfl rfl ?_
      refine g_getR h (index := 13) (j := 3) iM_0_0 (C := RX6) (T := TX6) (N := 13) rfl n_X6_number_6 (by decide) rfl (by decide +kernel) dX6_number_77 ?_
      refine g_aload_n h 0 dX6_number_80 rfl rfl ?_
      refine g_getI h (v := T6 0 8) (uMr M0 0 _ _ _) (index := 110) (j := 8) iM_0_0 (C := RX6) (T := TX6) (N := 13) rfl n_X6_number_6 (by decide) rfl (by decide +kernel) dX6_number_81 ?_
      refine g_ni (fun v8 => ?_)
      refine g_iald h (v := T6 2 v8.toNatClampNeg) (uMr M0 0 _ _ _) iM_0_2 dX6_number_84 ?_
      refine g_ni (fun v9 => ?_)
      refine g_iadd h dX6_number_85 ?_
      refine g_bipush h 48 dX6_number_86 (by decide) ?_
      refine g_isub h dX6_number_88 ?_
      refine g_istore_n h rfl (lv' := [(1, .int (((10 * b1) + v9) - 48)), (0, .ref (th ω 0 0))]) dX6_number_89 (by decide) [0, 1] rfl ?_
      refine g_aload_n h 1 dX6_number_90 rfl rfl ?_
      refine g_dup h dX6_number_91 rfl ?_
      refine g_getI h (v := T6 0 8) (uMr M0 0 _ _ _) (index := 110) (j := 8) iM_0_0 (C := RX6) (T := TX6) (N := 13) rfl n_X6_number_6 (by decide) rfl (by decide +kernel) dX6_number_92 ?_
      refine g_ni (fun v10 => ?_)
      refine g_iconst h 1 dX6_number_95 (by decide) ?_
      refine g_iadd h dX6_number_96 ?_
      refine g_putI h (x' := wT T6 0 8 (v10 + 1)) (wM_uM M0 0 _ _ _ _).symm (index := 110) (j := 8) iM_0_0 (C := RX6) (T := TX6) (N := 13) rfl n_X6_number_6 tyX6_ok nmX6 (by decide) rfl (by decide +kernel) rfl (ty := .int) (by decide +kernel) rfl rfl dX6_number_97 ?_
      refine g_nm (fun T11 => ?_)
      refine g_sub (lv' := [(1, .int (((10 * b1) + v9) - 48))]) [0] rfl ?_
      exact b_X6_number_100 h hR _ _
set_option maxHeartbeats 4000000 in
set_option maxRecDepth 100000 in
theorem b_X6_number_28 {Γ : Cx} {l : Launch} {ω : Wd} {M0 : Mm}  (h : CxOk Γ l ⟨2, 0, 0, 44⟩ 2 ω LM cX6_number yX6_number.cls wsX6_number) (hR : RetI Γ ω LM cX6_number .int) : ∀ (s0 : Int32) (T : Tm), Gq Γ ω LM (uM M0 0) 28 [(0, .ref (th ω 0 0))] [.int s0] T (m_X6_number_28 s0 T) := by
  intro s0 T
  unfold m_X6_number_28
  refine g_istore_n h rfl (lv' := [(1, .int s0), (0, .ref (th ω 0 0))]) dX6_number_28 (by decide) [0, 1] rfl ?_
  refine g_aload_n h 1 dX6_number_29 rfl rfl ?_
  refine g_dup h dX6_number_30 rfl ?_
  refine g_getI h (v := T 0 8) (uMr M0 0 _ _ _) (index := 110) (j := 8) iM_0_0 (C := RX6) (T := TX6) (N := 13) rfl n_X6_number_6 (by decide) rfl (by decide +kernel) dX6_number_31 ?_
  refine g_ni (fun v1 => ?_)
  refine g_iload_n h 0 dX6_number_34 rfl rfl ?_
  refine g_bipush h (-5) dX6_number_35 (by decide) ?_
  refine g_icmp_eq h 44 dX6_number_37 (by decide) (fun hc2 => ?_) (fun hc2 => ?_)
  · skip
    refine g_iconst h 0 dX6_number_44 (by decide) ?_
    refine g_sub (lv' := [(0, .ref (th ω 0 0)), (1, .int s0)]) [1, 0] rfl ?_
    exact b_X6_number_45 h hR _ _ _ _
  · skip
    refine g_iconst h 1 dX6_number_40 (by decide) ?_
    refine g_goto h (tgt := 45) dX6_number_41 (by decide) ?_
    refine g_sub (lv' := [(0, .ref (th ω 0 0)), (1, .int s0)]) [1, 0] rfl ?_
    exact b_X6_number_45 h hR _ _ _ _
set_option maxHeartbeats 4000000 in
set_option maxRecDepth 100000 in
theorem c_X6_number (l : Launch) (ω : Wd)  (M0 : Mm) (T : Tm) {r : Int32} {T' : Tm} (hm : m_X6_number T = some (r, T')) : MI l yX6_number wsX6_number ⟨2, 0, 0, 44⟩ ω LM [.ref (th ω 0 0)] (uM M0 0 T) r (uM M0 0 T') := by
  refine met_i (cc := cX6_number) (maxL := 2) (ty := .int) (by decide +kernel) rfl (Nat.le_of_ble_eq_true rfl) LM_nd ?_
  intro Γ h hR ht
  suffices K : Gq Γ ω LM (uM M0 0) 0 [(0, .ref (th ω 0 0))] [] T (m_X6_number T) from K (r, T') hm ht
  unfold m_X6_number
  refine g_aload_n h 0 dX6_number_0 rfl rfl ?_
  refine g_bipush h 48 dX6_number_1 (by decide) ?_
  refine g_bipush h 57 dX6_number_3 (by decide) ?_
  refine g_callI h (As := [.int 48, .int 57]) (fun t => t) (fun r t hG => c_X6_isHere l ω M0 _ 48 57 hG) iM_0_0 (C := RX6) (T := TX6) (N := 13) rfl 2 rfl gX6_number_X6_isHere rfl rfl rfl (by decide +kernel) (by decide) (st0 := _) rfl (Nat.le_of_ble_eq_true rfl) dX6_number_5 (fun r1 T2 => ?_)
  refine g_if_eq h 26 dX6_number_8 (by decide) (fun hc3 => ?_) (fun hc3 => ?_)
  · skip
    refine g_bipush h (-5) dX6_number_26 (by decide) ?_
    exact b_X6_number_28 h hR _ _
  · skip
    refine g_aload_n h 0 dX6_number_11 rfl rfl ?_
    refine g_getR h (index := 13) (j := 3) iM_0_0 (C := RX6) (T := TX6) (N := 13) rfl n_X6_number_6 (by decide) rfl (by decide +kernel) dX6_number_12 ?_
    refine g_aload_n h 0 dX6_number_15 rfl rfl ?_
    refine g_getI h (v := T2 0 8) (uMr M0 0 _ _ _) (index := 110) (j := 8) iM_0_0 (C := RX6) (T := TX6) (N := 13) rfl n_X6_number_6 (by decide) rfl (by decide +kernel) dX6_number_16 ?_
    refine g_ni (fun v4 => ?_)
    refine g_iald h (v := T2 2 v4.toNatClampNeg) (uMr M0 0 _ _ _) iM_0_2 dX6_number_19 ?_
    refine g_ni (fun v5 => ?_)
    refine g_bipush h 48 dX6_number_20 (by decide) ?_
    refine g_isub h dX6_number_22 ?_
    refine g_goto h (tgt := 28) dX6_number_23 (by decide) ?_
    exact b_X6_number_28 h hR _ _
theorem n_X6_readsOrder_6 : ∀ w ∈ wsX60, w ∈ wsX6_readsOrder := by decide +kernel
set_option maxHeartbeats 4000000 in
set_option maxRecDepth 100000 in
theorem b_X6_readsOrder_166 {Γ : Cx} {l : Launch} {ω : Wd} {M0 : Mm}  (h : CxOk Γ l ⟨3, 0, 0, 66⟩ 1 ω LM cX6_readsOrder yX6_readsOrder.cls wsX6_readsOrder) (hR : RetI Γ ω LM cX6_readsOrder .boolean) : ∀ (s1 : Int32) (s2 : Int32) (T : Tm), Gq Γ ω LM (uM M0 0) 166 [(0, .ref (th ω 0 0))] [.int s2, .int s1, .ref (th ω 0 0)] T (m_X6_readsOrder_166 s1 s2 T) := by
  intro s1 s2 T
  unfold m_X6_readsOrder_166
  refine g_callP h (As := [.int s2]) (fun r t hG => c_X6_flag l ω M00 s2 hG) 1 rfl gX6_readsOrder_X6_flag rfl rfl rfl (by decide +kernel) (by decide) (st0 := _) rfl (Nat.le_of_ble_eq_true rfl) dX6_readsOrder_166 (fun r1 => ?_)
  refine g_iadd h dX6_readsOrder_169 ?_
  refine g_putI h (x' := wT T 0 8 (s1 + r1)) (wM_uM M0 0 _ _ _ _).symm (index := 110) (j := 8) iM_0_0 (C := RX6) (T := TX6) (N := 13) rfl n_X6_readsOrder_6 tyX6_ok nmX6 (by decide) rfl (by decide +kernel) rfl (ty := .int) (by decide +kernel) rfl rfl dX6_readsOrder_170 ?_
  refine g_nm (fun T2 => ?_)
  refine g_aload_n h 0 dX6_readsOrder_173 rfl rfl ?_
  refine g_getI h (v := T2 0 12) (uMr M0 0 _ _ _) (index := 132) (j := 12) iM_0_0 (C := RX6) (T := TX6) (N := 13) rfl n_X6_readsOrder_6 (by decide) rfl (by decide +kernel) dX6_readsOrder_174 ?_
  refine g_ni (fun v3 => ?_)
  refine g_bipush h (-5) dX6_readsOrder_177 (by decide) ?_
  refine g_icmp_eq h 186 dX6_readsOrder_179 (by decide) (fun hc4 => ?_) (fun hc4 => ?_)
  · skip
    refine g_iconst h 0 dX6_readsOrder_186 (by decide) ?_
    exact g_iret hR (by decide) dX6_readsOrder_187
  · skip
    refine g_iconst h 1 dX6_readsOrder_182 (by decide) ?_
    refine g_goto h (tgt := 187) dX6_readsOrder_183 (by decide) ?_
    exact g_iret hR (by decide) dX6_readsOrder_187
set_option maxHeartbeats 4000000 in
set_option maxRecDepth 100000 in
theorem b_X6_readsOrder_144 {Γ : Cx} {l : Launch} {ω : Wd} {M0 : Mm}  (h : CxOk Γ l ⟨3, 0, 0, 66⟩ 1 ω LM cX6_readsOrder yX6_readsOrder.cls wsX6_readsOrder) (hR : RetI Γ ω LM cX6_readsOrder .boolean) : ∀ (s1 : Int32) (T : Tm), Gq Γ ω LM (uM M0 0) 144 [(0, .ref (th ω 0 0))] [.int s1, .ref (th ω 0 0)] T (m_X6_readsOrder_144 s1 T) := by
  intro s1 T
  unfold m_X6_readsOrder_144
  refine g_putI h (x' := wT T 0 12 s1) (wM_uM M0 0 _ _ _ _).symm (index := 132) (j := 12) iM_0_0 (C := RX6) (T := TX6) (N := 13) rfl n_X6_readsOrder_6 tyX6_ok nmX6 (by decide) rfl (by decide +kernel) rfl (ty := .int) (by decide +kernel) rfl rfl dX6_readsOrder_144 ?_
  refine g_nm (fun T1 => ?_)
  refine g_aload_n h 0 dX6_readsOrder_147 rfl rfl ?_
  refine g_dup h dX6_readsOrder_148 rfl ?_
  refine g_getI h (v := T1 0 8) (uMr M0 0 _ _ _) (index := 110) (j := 8) iM_0_0 (C := RX6) (T := TX6) (N := 13) rfl n_X6_readsOrder_6 (by decide) rfl (by decide +kernel) dX6_readsOrder_149 ?_
  refine g_ni (fun v2 => ?_)
  refine g_aload_n h 0 dX6_readsOrder_152 rfl rfl ?_
  refine g_getI h (v := T1 0 12) (uMr M0 0 _ _ _) (index := 132) (j := 12) iM_0_0 (C := RX6) (T := TX6) (N := 13) rfl n_X6_readsOrder_6 (by decide) rfl (by decide +kernel) dX6_readsOrder_153 ?_
  refine g_ni (fun v3 => ?_)
  refine g_bipush h (-5) dX6_readsOrder_156 (by decide) ?_
  refine g_icmp_eq h 165 dX6_readsOrder_158 (by decide) (fun hc4 => ?_) (fun hc4 => ?_)
  · skip
    refine g_iconst h 0 dX6_readsOrder_165 (by decide) ?_
    exact b_X6_readsOrder_166 h hR _ _ _
  · skip
    refine g_iconst h 1 dX6_readsOrder_161 (by decide) ?_
    refine g_goto h (tgt := 166) dX6_readsOrder_162 (by decide) ?_
    exact b_X6_readsOrder_166 h hR _ _ _
set_option maxHeartbeats 4000000 in
set_option maxRecDepth 100000 in
theorem b_X6_readsOrder_142 {Γ : Cx} {l : Launch} {ω : Wd} {M0 : Mm}  (h : CxOk Γ l ⟨3, 0, 0, 66⟩ 1 ω LM cX6_readsOrder yX6_readsOrder.cls wsX6_readsOrder) (hR : RetI Γ ω LM cX6_readsOrder .boolean) : ∀ (T : Tm), Gq Γ ω LM (uM M0 0) 142 [(0, .ref (th ω 0 0))] [.ref (th ω 0 0)] T (m_X6_readsOrder_142 T) := by
  intro T
  unfold m_X6_readsOrder_142
  refine g_bipush h (-5) dX6_readsOrder_142 (by decide) ?_
  exact b_X6_readsOrder_144 h hR _ _
set_option maxHeartbeats 4000000 in
set_option maxRecDepth 100000 in
theorem b_X6_readsOrder_94 {Γ : Cx} {l : Launch} {ω : Wd} {M0 : Mm}  (h : CxOk Γ l ⟨3, 0, 0, 66⟩ 1 ω LM cX6_readsOrder yX6_readsOrder.cls wsX6_readsOrder) (hR : RetI Γ ω LM cX6_readsOrder .boolean) : ∀ (s1 : Int32) (T : Tm), Gq Γ ω LM (uM M0 0) 94 [(0, .ref (th ω 0 0))] [.int s1, .ref (th ω 0 0)] T (m_X6_readsOrder_94 s1 T) := by
  intro s1 T
  unfold m_X6_readsOrder_94
  refine g_putI h (x' := wT T 0 11 s1) (wM_uM M0 0 _ _ _ _).symm (index := 129) (j := 11) iM_0_0 (C := RX6) (T := TX6) (N := 13) rfl n_X6_readsOrder_6 tyX6_ok nmX6 (by decide) rfl (by decide +kernel) rfl (ty := .int) (by decide +kernel) rfl rfl dX6_readsOrder_94 ?_
  refine g_nm (fun T1 => ?_)
  refine g_aload_n h 0 dX6_readsOrder_97 rfl rfl ?_
  refine g_aload_n h 0 dX6_readsOrder_98 rfl rfl ?_
  refine g_getI h (v := T1 0 11) (uMr M0 0 _ _ _) (index := 129) (j := 11) iM_0_0 (C := RX6) (T := TX6) (N := 13) rfl n_X6_readsOrder_6 (by decide) rfl (by decide +kernel) dX6_readsOrder_99 ?_
  refine g_ni (fun v2 => ?_)
  refine g_bipush h (-5) dX6_readsOrder_102 (by decide) ?_
  refine g_icmp_eq h 142 dX6_readsOrder_104 (by decide) (fun hc3 => ?_) (fun hc3 => ?_)
  · skip
    exact b_X6_readsOrder_142 h hR _
  · skip
    refine g_aload_n h 0 dX6_readsOrder_107 rfl rfl ?_
    refine g_bipush h 58 dX6_readsOrder_108 (by decide) ?_
    refine g_callI h (As := [.int 58]) (fun t => t) (fun r t hG => c_X6_takes l ω M0 _ 58 hG) iM_0_0 (C := RX6) (T := TX6) (N := 13) rfl 1 rfl gX6_readsOrder_X6_takes rfl rfl rfl (by decide +kernel) (by decide) (st0 := _) rfl (Nat.le_of_ble_eq_true rfl) dX6_readsOrder_110 (fun r4 T5 => ?_)
    refine g_if_eq h 142 dX6_readsOrder_113 (by decide) (fun hc6 => ?_) (fun hc6 => ?_)
    · skip
      exact b_X6_readsOrder_142 h hR _
    · skip
      refine g_aload_n h 0 dX6_readsOrder_116 rfl rfl ?_
      refine g_bipush h 49 dX6_readsOrder_117 (by decide) ?_
      refine g_bipush h 57 dX6_readsOrder_119 (by decide) ?_
      refine g_callI h (As := [.int 49, .int 57]) (fun t => t) (fun r t hG => c_X6_isHere l ω M0 _ 49 57 hG) iM_0_0 (C := RX6) (T := TX6) (N := 13) rfl 2 rfl gX6_readsOrder_X6_isHere rfl rfl rfl (by decide +kernel) (by decide) (st0 := _) rfl (Nat.le_of_ble_eq_true rfl) dX6_readsOrder_121 (fun r7 T8 => ?_)
      refine g_if_eq h 142 dX6_readsOrder_124 (by decide) (fun hc9 => ?_) (fun hc9 => ?_)
      · skip
        exact b_X6_readsOrder_142 h hR _
      · skip
        refine g_aload_n h 0 dX6_readsOrder_127 rfl rfl ?_
        refine g_getR h (index := 13) (j := 3) iM_0_0 (C := RX6) (T := TX6) (N := 13) rfl n_X6_readsOrder_6 (by decide) rfl (by decide +kernel) dX6_readsOrder_128 ?_
        refine g_aload_n h 0 dX6_readsOrder_131 rfl rfl ?_
        refine g_getI h (v := T8 0 8) (uMr M0 0 _ _ _) (index := 110) (j := 8) iM_0_0 (C := RX6) (T := TX6) (N := 13) rfl n_X6_readsOrder_6 (by decide) rfl (by decide +kernel) dX6_readsOrder_132 ?_
        refine g_ni (fun v10 => ?_)
        refine g_iald h (v := T8 2 v10.toNatClampNeg) (uMr M0 0 _ _ _) iM_0_2 dX6_readsOrder_135 ?_
        refine g_ni (fun v11 => ?_)
        refine g_bipush h 48 dX6_readsOrder_136 (by decide) ?_
        refine g_isub h dX6_readsOrder_138 ?_
        refine g_goto h (tgt := 144) dX6_readsOrder_139 (by decide) ?_
        exact b_X6_readsOrder_144 h hR _ _
set_option maxHeartbeats 4000000 in
set_option maxRecDepth 100000 in
theorem b_X6_readsOrder_60 {Γ : Cx} {l : Launch} {ω : Wd} {M0 : Mm}  (h : CxOk Γ l ⟨3, 0, 0, 66⟩ 1 ω LM cX6_readsOrder yX6_readsOrder.cls wsX6_readsOrder) (hR : RetI Γ ω LM cX6_readsOrder .boolean) : ∀ (T : Tm), Gq Γ ω LM (uM M0 0) 60 [(0, .ref (th ω 0 0))] [] T (m_X6_readsOrder_60 T) := by
  intro T
  unfold m_X6_readsOrder_60
  refine g_aload_n h 0 dX6_readsOrder_60 rfl rfl ?_
  refine g_getI h (v := T 0 10) (uMr M0 0 _ _ _) (index := 126) (j := 10) iM_0_0 (C := RX6) (T := TX6) (N := 13) rfl n_X6_readsOrder_6 (by decide) rfl (by decide +kernel) dX6_readsOrder_61 ?_
  refine g_ni (fun v1 => ?_)
  refine g_bipush h (-5) dX6_readsOrder_64 (by decide) ?_
  refine g_icmp_eq h 73 dX6_readsOrder_66 (by decide) (fun hc2 => ?_) (fun hc2 => ?_)
  · skip
    refine g_iconst h 0 dX6_readsOrder_73 (by decide) ?_
    exact g_iret hR (by decide) dX6_readsOrder_74
  · skip
    refine g_iconst h 1 dX6_readsOrder_69 (by decide) ?_
    refine g_goto h (tgt := 74) dX6_readsOrder_70 (by decide) ?_
    exact g_iret hR (by decide) dX6_readsOrder_74
set_option maxHeartbeats 4000000 in
set_option maxRecDepth 100000 in
theorem b_X6_readsOrder_31 {Γ : Cx} {l : Launch} {ω : Wd} {M0 : Mm}  (h : CxOk Γ l ⟨3, 0, 0, 66⟩ 1 ω LM cX6_readsOrder yX6_readsOrder.cls wsX6_readsOrder) (hR : RetI Γ ω LM cX6_readsOrder .boolean) : ∀ (s1 : Int32) (T : Tm), Gq Γ ω LM (uM M0 0) 31 [(0, .ref (th ω 0 0))] [.int s1, .ref (th ω 0 0)] T (m_X6_readsOrder_31 s1 T) := by
  intro s1 T
  unfold m_X6_readsOrder_31
  refine g_putI h (x' := wT T 0 9 s1) (wM_uM M0 0 _ _ _ _).symm (index := 120) (j := 9) iM_0_0 (C := RX6) (T := TX6) (N := 13) rfl n_X6_readsOrder_6 tyX6_ok nmX6 (by decide) rfl (by decide +kernel) rfl (ty := .int) (by decide +kernel) rfl rfl dX6_readsOrder_31 ?_
  refine g_nm (fun T1 => ?_)
  refine g_aload_n h 0 dX6_readsOrder_34 rfl rfl ?_
  refine g_aload_n h 0 dX6_readsOrder_35 rfl rfl ?_
  refine g_callI h (As := []) (fun t => t) (fun r t hG => c_X6_number l ω M0 _ hG) iM_0_0 (C := RX6) (T := TX6) (N := 13) rfl 0 rfl gX6_readsOrder_X6_number rfl rfl rfl (by decide +kernel) (by decide) (st0 := _) rfl (Nat.le_of_ble_eq_true rfl) dX6_readsOrder_36 (fun r2 T3 => ?_)
  refine g_putI h (x' := wT T3 0 10 r2) (wM_uM M0 0 _ _ _ _).symm (index := 126) (j := 10) iM_0_0 (C := RX6) (T := TX6) (N := 13) rfl n_X6_readsOrder_6 tyX6_ok nmX6 (by decide) rfl (by decide +kernel) rfl (ty := .int) (by decide +kernel) rfl rfl dX6_readsOrder_39 ?_
  refine g_nm (fun T4 => ?_)
  refine g_aload_n h 0 dX6_readsOrder_42 rfl rfl ?_
  refine g_getI h (v := T4 0 9) (uMr M0 0 _ _ _) (index := 120) (j := 9) iM_0_0 (C := RX6) (T := TX6) (N := 13) rfl n_X6_readsOrder_6 (by decide) rfl (by decide +kernel) dX6_readsOrder_43 ?_
  refine g_ni (fun v5 => ?_)
  refine g_bipush h 120 dX6_readsOrder_46 (by decide) ?_
  refine g_icmp_ne h 60 dX6_readsOrder_48 (by decide) (fun hc6 => ?_) (fun hc6 => ?_)
  · skip
    refine g_aload_n h 0 dX6_readsOrder_51 rfl rfl ?_
    refine g_getI h (v := T4 0 10) (uMr M0 0 _ _ _) (index := 126) (j := 10) iM_0_0 (C := RX6) (T := TX6) (N := 13) rfl n_X6_readsOrder_6 (by decide) rfl (by decide +kernel) dX6_readsOrder_52 ?_
    refine g_ni (fun v7 => ?_)
    refine g_bipush h (-5) dX6_readsOrder_55 (by decide) ?_
    refine g_icmp_ne h 75 dX6_readsOrder_57 (by decide) (fun hc8 => ?_) (fun hc8 => ?_)
    · skip
      exact b_X6_readsOrder_60 h hR _
    · skip
      refine g_aload_n h 0 dX6_readsOrder_75 rfl rfl ?_
      refine g_aload_n h 0 dX6_readsOrder_76 rfl rfl ?_
      refine g_bipush h 120 dX6_readsOrder_77 (by decide) ?_
      refine g_callI h (As := [.int 120]) (fun t => t) (fun r t hG => c_X6_takes l ω M0 _ 120 hG) iM_0_0 (C := RX6) (T := TX6) (N := 13) rfl 1 rfl gX6_readsOrder_X6_takes rfl rfl rfl (by decide +kernel) (by decide) (st0 := _) rfl (Nat.le_of_ble_eq_true rfl) dX6_readsOrder_79 (fun r9 T10 => ?_)
      refine g_if_eq h 92 dX6_readsOrder_82 (by decide) (fun hc11 => ?_) (fun hc11 => ?_)
      · skip
        refine g_bipush h (-5) dX6_readsOrder_92 (by decide) ?_
        exact b_X6_readsOrder_94 h hR _ _
      · skip
        refine g_aload_n h 0 dX6_readsOrder_85 rfl rfl ?_
        refine g_callI h (As := []) (fun t => t) (fun r t hG => c_X6_number l ω M0 _ hG) iM_0_0 (C := RX6) (T := TX6) (N := 13) rfl 0 rfl gX6_readsOrder_X6_number rfl rfl rfl (by decide +kernel) (by decide) (st0 := _) rfl (Nat.le_of_ble_eq_true rfl) dX6_readsOrder_86 (fun r12 T13 => ?_)
        refine g_goto h (tgt := 94) dX6_readsOrder_89 (by decide) ?_
        exact b_X6_readsOrder_94 h hR _ _
  · skip
    exact b_X6_readsOrder_60 h hR _
set_option maxHeartbeats 4000000 in
set_option maxRecDepth 100000 in
theorem c_X6_readsOrder (l : Launch) (ω : Wd)  (M0 : Mm) (T : Tm) {r : Int32} {T' : Tm} (hm : m_X6_readsOrder T = some (r, T')) : MI l yX6_readsOrder wsX6_readsOrder ⟨3, 0, 0, 66⟩ ω LM [.ref (th ω 0 0)] (uM M0 0 T) r (uM M0 0 T') := by
  refine met_i (cc := cX6_readsOrder) (maxL := 1) (ty := .boolean) (by decide +kernel) rfl (Nat.le_of_ble_eq_true rfl) LM_nd ?_
  intro Γ h hR ht
  suffices K : Gq Γ ω LM (uM M0 0) 0 [(0, .ref (th ω 0 0))] [] T (m_X6_readsOrder T) from K (r, T') hm ht
  unfold m_X6_readsOrder
  refine g_aload_n h 0 dX6_readsOrder_0 rfl rfl ?_
  refine g_aload_n h 0 dX6_readsOrder_1 rfl rfl ?_
  refine g_bipush h 116 dX6_readsOrder_2 (by decide) ?_
  refine g_callI h (As := [.int 116]) (fun t => t) (fun r t hG => c_X6_takes l ω M0 _ 116 hG) iM_0_0 (C := RX6) (T := TX6) (N := 13) rfl 1 rfl gX6_readsOrder_X6_takes rfl rfl rfl (by decide +kernel) (by decide) (st0 := _) rfl (Nat.le_of_ble_eq_true rfl) dX6_readsOrder_4 (fun r1 T2 => ?_)
  refine g_if_eq h 15 dX6_readsOrder_7 (by decide) (fun hc3 => ?_) (fun hc3 => ?_)
  · skip
    refine g_aload_n h 0 dX6_readsOrder_15 rfl rfl ?_
    refine g_bipush h 115 dX6_readsOrder_16 (by decide) ?_
    refine g_callI h (As := [.int 115]) (fun t => t) (fun r t hG => c_X6_takes l ω M0 _ 115 hG) iM_0_0 (C := RX6) (T := TX6) (N := 13) rfl 1 rfl gX6_readsOrder_X6_takes rfl rfl rfl (by decide +kernel) (by decide) (st0 := _) rfl (Nat.le_of_ble_eq_true rfl) dX6_readsOrder_18 (fun r4 T5 => ?_)
    refine g_if_eq h 29 dX6_readsOrder_21 (by decide) (fun hc6 => ?_) (fun hc6 => ?_)
    · skip
      refine g_bipush h 120 dX6_readsOrder_29 (by decide) ?_
      exact b_X6_readsOrder_31 h hR _ _
    · skip
      refine g_bipush h 115 dX6_readsOrder_24 (by decide) ?_
      refine g_goto h (tgt := 31) dX6_readsOrder_26 (by decide) ?_
      exact b_X6_readsOrder_31 h hR _ _
  · skip
    refine g_bipush h 116 dX6_readsOrder_10 (by decide) ?_
    refine g_goto h (tgt := 31) dX6_readsOrder_12 (by decide) ?_
    exact b_X6_readsOrder_31 h hR _ _
