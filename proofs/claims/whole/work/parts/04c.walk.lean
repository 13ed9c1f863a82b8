/-! WALKS (written by wip/whole/gen.py): X4_inherit, X4_settleSmashes, X4_outcome, X4_hit, X4_fight, X4_isInLineOf, X4_lengthOfLine, X4_mendError, X4_settleBoast, X4_strikeError, X4_threadAgain, X4_victoriesOf, X5_append, X5_boast, X5_bout, X5_carryOutOrder -/
theorem n_X4_inherit_4 : ∀ w ∈ wsX40, w ∈ wsX4_inherit := by decide +kernel
set_option maxHeartbeats 4000000 in
set_option maxRecDepth 100000 in
theorem c_X4_inherit (l : Launch) (ω : Wd) (k : Nat) (hk : kS k) (M0 : Mm) (T : Tm) (a1 : Int32) (a2 : Int32) {r : Int32} {T' : Tm} (hm : m_X4_inherit a1 a2 T = some (r, T')) : MV l yX4_inherit wsX4_inherit ⟨1, 0, 0, 22⟩ ω LC [.ref (th ω k 0), .int a1, .int a2] (uM M0 k T) (uM M0 k T') := by
  refine met_v (cc := cX4_inherit) (maxL := 3) (r := r) (by decide +kernel) rfl (Nat.le_of_ble_eq_true rfl) LC_nd ?_
  intro Γ h hR ht
  suffices K : Gq Γ ω LC (uM M0 k) 0 [(0, .ref (th ω k 0)), (1, .int a1), (2, .int a2)] [] T (m_X4_inherit a1 a2 T) from K (r, T') hm ht
  unfold m_X4_inherit
  refine g_aload_n h 0 dX4_inherit_0 rfl rfl ?_
  refine g_getR h (index := 30) (j := 6) (inS hk 0 (by decide)) (C := RX4) (T := TX4) (N := 13) rfl n_X4_inherit_4 (by decide) rfl (by decide +kernel) dX4_inherit_1 ?_
  refine g_iload_n h 1 dX4_inherit_4 rfl rfl ?_
  refine g_dup2 h dX4_inherit_5 rfl rfl ?_
  refine g_iald h (v := T 7 a1.toNatClampNeg) (uMr M0 k _ _ _) (inS hk 7 (by decide)) dX4_inherit_6 ?_
  refine g_ni (fun v1 => ?_)
  refine g_iconst h 1 dX4_inherit_7 (by decide) ?_
  refine g_aload_n h 0 dX4_inherit_8 rfl rfl ?_
  refine g_iload_n h 2 dX4_inherit_9 rfl rfl ?_
  refine g_callI h (As := [.int a2]) (fun t => t) (fun r t hG => c_X4_takeVictoriesOfSmashed l ω k hk M0 _ a2 hG) (inS hk 0 (by decide)) (C := RX4) (T := TX4) (N := 13) rfl 1 rfl gX4_inherit_X4_takeVictoriesOfSmashed rfl rfl rfl (by decide +kernel) (by decide) (st0 := _) rfl (Nat.le_of_ble_eq_true rfl) dX4_inherit_10 (fun r2 T3 => ?_)
  refine g_iadd h dX4_inherit_13 ?_
  refine g_iadd h dX4_inherit_14 ?_
  refine g_iast h (x' := wT T3 7 a1.toNatClampNeg (v1 + (1 + r2))) (wM_uM M0 k _ _ _ _).symm (inS hk 7 (by decide)) dX4_inherit_15 ?_
  refine g_nm (fun T4 => ?_)
  refine g_aload_n h 0 dX4_inherit_16 rfl rfl ?_
  refine g_getR h (index := 39) (j := 9) (inS hk 0 (by decide)) (C := RX4) (T := TX4) (N := 13) rfl n_X4_inherit_4 (by decide) rfl (by decide +kernel) dX4_inherit_17 ?_
  refine g_iload_n h 2 dX4_inherit_20 rfl rfl ?_
  refine g_iload_n h 1 dX4_inherit_21 rfl rfl ?_
  refine g_iast h (x' := wT T4 10 a2.toNatClampNeg a1) (wM_uM M0 k _ _ _ _).symm (inS hk 10 (by decide)) dX4_inherit_22 ?_
  refine g_nm (fun T5 => ?_)
  exact g_vret hR dX4_inherit_23
theorem n_X4_settleSmashes_4 : ∀ w ∈ wsX40, w ∈ wsX4_settleSmashes := by decide +kernel
set_option maxHeartbeats 4000000 in
set_option maxRecDepth 100000 in
theorem b_X4_settleSmashes_59 {Γ : Cx} {l : Launch} {ω : Wd} {M0 : Mm} {k : Nat} (hk : kS k) (h : CxOk Γ l ⟨2, 0, 0, 44⟩ 5 ω LC cX4_settleSmashes yX4_settleSmashes.cls wsX4_settleSmashes) (hR : RetV Γ ω LC cX4_settleSmashes) : ∀ (b1 : Int32) (b2 : Int32) (b3 : Int32) (b4 : Int32) (T : Tm), Gq Γ ω LC (uM M0 k) 59 [(0, .ref (th ω k 0)), (1, .int b1), (2, .int b2), (3, .int b3), (4, .int b4)] [] T (m_X4_settleSmashes_59 b1 b2 b3 b4 T) := by
  intro b1 b2 b3 b4 T
  unfold m_X4_settleSmashes_59
  refine g_iload_n h 3 dX4_settleSmashes_59 rfl rfl ?_
  refine g_if_eq h 72 dX4_settleSmashes_60 (by decide) (fun hc1 => ?_) (fun hc1 => ?_)
  · skip
    refine g_iload h 4 dX4_settleSmashes_72 rfl ?_
    refine g_if_eq h 83 dX4_settleSmashes_74 (by decide) (fun hc2 => ?_) (fun hc2 => ?_)
    · skip
      exact g_vret hR dX4_settleSmashes_83
    · skip
      refine g_aload_n h 0 dX4_settleSmashes_77 rfl rfl ?_
      refine g_iload_n h 1 dX4_settleSmashes_78 rfl rfl ?_
      refine g_iload_n h 2 dX4_settleSmashes_79 rfl rfl ?_
      refine g_callV h (As := [.int b1, .int b2]) (fun t => t) (fun r t hG => c_X4_inherit l ω k hk M0 _ b1 b2 hG) (inS hk 0 (by decide)) (C := RX4) (T := TX4) (N := 13) rfl 2 rfl gX4_settleSmashes_X4_inherit rfl rfl rfl (by decide +kernel) (by decide) (st0 := _) rfl (Nat.le_of_ble_eq_true rfl) dX4_settleSmashes_80 (fun r3 T4 => ?_)
      exact g_vret hR dX4_settleSmashes_83
  · skip
    refine g_aload_n h 0 dX4_settleSmashes_63 rfl rfl ?_
    refine g_iload_n h 2 dX4_settleSmashes_64 rfl rfl ?_
    refine g_iload_n h 1 dX4_settleSmashes_65 rfl rfl ?_
    refine g_callV h (As := [.int b2, .int b1]) (fun t => t) (fun r t hG => c_X4_inherit l ω k hk M0 _ b2 b1 hG) (inS hk 0 (by decide)) (C := RX4) (T := TX4) (N := 13) rfl 2 rfl gX4_settleSmashes_X4_inherit rfl rfl rfl (by decide +kernel) (by decide) (st0 := _) rfl (Nat.le_of_ble_eq_true rfl) dX4_settleSmashes_66 (fun r5 T6 => ?_)
    refine g_goto h (tgt := 83) dX4_settleSmashes_69 (by decide) ?_
    exact g_vret hR dX4_settleSmashes_83
set_option maxHeartbeats 4000000 in
set_option maxRecDepth 100000 in
theorem b_X4_settleSmashes_33 {Γ : Cx} {l : Launch} {ω : Wd} {M0 : Mm} {k : Nat} (hk : kS k) (h : CxOk Γ l ⟨2, 0, 0, 44⟩ 5 ω LC cX4_settleSmashes yX4_settleSmashes.cls wsX4_settleSmashes) (hR : RetV Γ ω LC cX4_settleSmashes) : ∀ (b1 : Int32) (b2 : Int32) (b3 : Int32) (s0 : Int32) (T : Tm), Gq Γ ω LC (uM M0 k) 33 [(0, .ref (th ω k 0)), (1, .int b1), (2, .int b2), (3, .int b3)] [.int s0] T (m_X4_settleSmashes_33 b1 b2 b3 s0 T) := by
  intro b1 b2 b3 s0 T
  unfold m_X4_settleSmashes_33
  refine g_istore h (lv' := [(4, .int s0), (0, .ref (th ω k 0)), (1, .int b1), (2, .int b2), (3, .int b3)]) dX4_settleSmashes_33 (by decide) [0, 1, 2, 3, 4] rfl ?_
  refine g_iload_n h 4 dX4_settleSmashes_35 rfl rfl ?_
  refine g_if_eq h 59 dX4_settleSmashes_36 (by decide) (fun hc1 => ?_) (fun hc1 => ?_)
  · skip
    refine g_sub (lv' := [(0, .ref (th ω k 0)), (1, .int b1), (2, .int b2), (3, .int b3), (4, .int s0)]) [1, 2, 3, 4, 0] rfl ?_
    exact b_X4_settleSmashes_59 hk h hR _ _ _ _ _
  · skip
    refine g_iload h 0 dX4_settleSmashes_39 rfl ?_
    refine g_if_eq h 59 dX4_settleSmashes_41 (by decide) (fun hc2 => ?_) (fun hc2 => ?_)
    · skip
      refine g_sub (lv' := [(0, .ref (th ω k 0)), (1, .int b1), (2, .int b2), (3, .int b3), (4, .int s0)]) [1, 2, 3, 4, 0] rfl ?_
      exact b_X4_settleSmashes_59 hk h hR _ _ _ _ _
    · skip
      refine g_aload_n h 1 dX4_settleSmashes_44 rfl rfl ?_
      refine g_iload_n h 2 dX4_settleSmashes_45 rfl rfl ?_
      refine g_callI h (As := [.int b1]) (fun t => t) (fun r t hG => c_X4_crush l ω k hk M0 _ b1 hG) (inS hk 0 (by decide)) (C := RX4) (T := TX4) (N := 13) rfl 1 rfl gX4_settleSmashes_X4_crush rfl rfl rfl (by decide +kernel) (by decide) (st0 := _) rfl (Nat.le_of_ble_eq_true rfl) dX4_settleSmashes_46 (fun r3 T4 => ?_)
      refine g_pop h dX4_settleSmashes_49 rfl ?_
      refine g_aload_n h 1 dX4_settleSmashes_50 rfl rfl ?_
      refine g_iload_n h 3 dX4_settleSmashes_51 rfl rfl ?_
      refine g_callI h (As := [.int b2]) (fun t => t) (fun r t hG => c_X4_crush l ω k hk M0 _ b2 hG) (inS hk 0 (by decide)) (C := RX4) (T := TX4) (N := 13) rfl 1 rfl gX4_settleSmashes_X4_crush rfl rfl rfl (by decide +kernel) (by decide) (st0 := _) rfl (Nat.le_of_ble_eq_true rfl) dX4_settleSmashes_52 (fun r5 T6 => ?_)
      refine g_pop h dX4_settleSmashes_55 rfl ?_
      refine g_goto h (tgt := 83) dX4_settleSmashes_56 (by decide) ?_
      exact g_vret hR dX4_settleSmashes_83
set_option maxHeartbeats 4000000 in
set_option maxRecDepth 100000 in
theorem b_X4_settleSmashes_16 {Γ : Cx} {l : Launch} {ω : Wd} {M0 : Mm} {k : Nat} (hk : kS k) (h : CxOk Γ l ⟨2, 0, 0, 44⟩ 5 ω LC cX4_settleSmashes yX4_settleSmashes.cls wsX4_settleSmashes) (hR : RetV Γ ω LC cX4_settleSmashes) : ∀ (b1 : Int32) (b2 : Int32) (s0 : Int32) (T : Tm), Gq Γ ω LC (uM M0 k) 16 [(0, .ref (th ω k 0)), (1, .int b1), (2, .int b2)] [.int s0] T (m_X4_settleSmashes_16 b1 b2 s0 T) := by
  intro b1 b2 s0 T
  unfold m_X4_settleSmashes_16
  refine g_istore_n h rfl (lv' := [(3, .int s0), (0, .ref (th ω k 0)), (1, .int b1), (2, .int b2)]) dX4_settleSmashes_16 (by decide) [0, 1, 2, 3] rfl ?_
  refine g_aload_n h 1 dX4_settleSmashes_17 rfl rfl ?_
  refine g_getR h (index := 24) (j := 4) (inS hk 0 (by decide)) (C := RX4) (T := TX4) (N := 13) rfl n_X4_settleSmashes_4 (by decide) rfl (by decide +kernel) dX4_settleSmashes_18 ?_
  refine g_iload_n h 3 dX4_settleSmashes_21 rfl rfl ?_
  refine g_iald h (v := T 5 b2.toNatClampNeg) (uMr M0 k _ _ _) (inS hk 5 (by decide)) dX4_settleSmashes_22 ?_
  refine g_ni (fun v1 => ?_)
  refine g_bipush h 100 dX4_settleSmashes_23 (by decide) ?_
  refine g_icmp_ne h 32 dX4_settleSmashes_25 (by decide) (fun hc2 => ?_) (fun hc2 => ?_)
  · skip
    refine g_iconst h 1 dX4_settleSmashes_28 (by decide) ?_
    refine g_goto h (tgt := 33) dX4_settleSmashes_29 (by decide) ?_
    refine g_sub (lv' := [(0, .ref (th ω k 0)), (1, .int b1), (2, .int b2), (3, .int s0)]) [1, 2, 3, 0] rfl ?_
    exact b_X4_settleSmashes_33 hk h hR _ _ _ _ _
  · skip
    refine g_iconst h 0 dX4_settleSmashes_32 (by decide) ?_
    refine g_sub (lv' := [(0, .ref (th ω k 0)), (1, .int b1), (2, .int b2), (3, .int s0)]) [1, 2, 3, 0] rfl ?_
    exact b_X4_settleSmashes_33 hk h hR _ _ _ _ _
set_option maxHeartbeats 4000000 in
set_option maxRecDepth 100000 in
theorem c_X4_settleSmashes (l : Launch) (ω : Wd) (k : Nat) (hk : kS k) (M0 : Mm) (T : Tm) (a1 : Int32) (a2 : Int32) {r : Int32} {T' : Tm} (hm : m_X4_settleSmashes a1 a2 T = some (r, T')) : MV l yX4_settleSmashes wsX4_settleSmashes ⟨2, 0, 0, 44⟩ ω LC [.ref (th ω k 0), .int a1, .int a2] (uM M0 k T) (uM M0 k T') := by
  refine met_v (cc := cX4_settleSmashes) (maxL := 5) (r := r) (by decide +kernel) rfl (Nat.le_of_ble_eq_true rfl) LC_nd ?_
  intro Γ h hR ht
  suffices K : Gq Γ ω LC (uM M0 k) 0 [(0, .ref (th ω k 0)), (1, .int a1), (2, .int a2)] [] T (m_X4_settleSmashes a1 a2 T) from K (r, T') hm ht
  unfold m_X4_settleSmashes
  refine g_aload_n h 0 dX4_settleSmashes_0 rfl rfl ?_
  refine g_getR h (index := 24) (j := 4) (inS hk 0 (by decide)) (C := RX4) (T := TX4) (N := 13) rfl n_X4_settleSmashes_4 (by decide) rfl (by decide +kernel) dX4_settleSmashes_1 ?_
  refine g_iload_n h 1 dX4_settleSmashes_4 rfl rfl ?_
  refine g_iald h (v := T 5 a1.toNatClampNeg) (uMr M0 k _ _ _) (inS hk 5 (by decide)) dX4_settleSmashes_5 ?_
  refine g_ni (fun v1 => ?_)
  refine g_bipush h 100 dX4_settleSmashes_6 (by decide) ?_
  refine g_icmp_ne h 15 dX4_settleSmashes_8 (by decide) (fun hc2 => ?_) (fun hc2 => ?_)
  · skip
    refine g_iconst h 1 dX4_settleSmashes_11 (by decide) ?_
    refine g_goto h (tgt := 16) dX4_settleSmashes_12 (by decide) ?_
    exact b_X4_settleSmashes_16 hk h hR _ _ _ _
  · skip
    refine g_iconst h 0 dX4_settleSmashes_15 (by decide) ?_
    exact b_X4_settleSmashes_16 hk h hR _ _ _ _
theorem n_X4_outcome_4 : ∀ w ∈ wsX40, w ∈ wsX4_outcome := by decide +kernel
set_option maxHeartbeats 4000000 in
set_option maxRecDepth 100000 in
theorem c_X4_outcome (l : Launch) (ω : Wd) (k : Nat) (hk : kS k) (M0 : Mm) (T : Tm) (a1 : Int32) (a2 : Int32) (a3 : Int32) {r : Int32} {T' : Tm} (hm : m_X4_outcome a1 a2 a3 T = some (r, T')) : MI l yX4_outcome wsX4_outcome ⟨0, 0, 0, 0⟩ ω LC [.ref (th ω k 0), .int a1, .int a2, .int a3] (uM M0 k T) r (uM M0 k T') := by
  refine met_i (cc := cX4_outcome) (maxL := 4) (ty := .int) (by decide +kernel) rfl (Nat.le_of_ble_eq_true rfl) LC_nd ?_
  intro Γ h hR ht
  suffices K : Gq Γ ω LC (uM M0 k) 0 [(0, .ref (th ω k 0)), (1, .int a1), (2, .int a2), (3, .int a3)] [] T (m_X4_outcome a1 a2 a3 T) from K (r, T') hm ht
  unfold m_X4_outcome
  refine g_aload_n h 0 dX4_outcome_0 rfl rfl ?_
  refine g_getR h (index := 36) (j := 8) (inS hk 0 (by decide)) (C := RX4) (T := TX4) (N := 13) rfl n_X4_outcome_4 (by decide) rfl (by decide +kernel) dX4_outcome_1 ?_
  refine g_iload_n h 1 dX4_outcome_4 rfl rfl ?_
  refine g_iald h (v := T 9 a1.toNatClampNeg) (uMr M0 k _ _ _) (inS hk 9 (by decide)) dX4_outcome_5 ?_
  refine g_ni (fun v1 => ?_)
  refine g_iconst h 2 dX4_outcome_6 (by decide) ?_
  refine g_icmp_ne h 12 dX4_outcome_7 (by decide) (fun hc2 => ?_) (fun hc2 => ?_)
  · skip
    refine g_iload_n h 2 dX4_outcome_10 rfl rfl ?_
    exact g_iret hR rfl dX4_outcome_11
  · skip
    refine g_aload_n h 0 dX4_outcome_12 rfl rfl ?_
    refine g_getR h (index := 36) (j := 8) (inS hk 0 (by decide)) (C := RX4) (T := TX4) (N := 13) rfl n_X4_outcome_4 (by decide) rfl (by decide +kernel) dX4_outcome_13 ?_
    refine g_iload_n h 1 dX4_outcome_16 rfl rfl ?_
    refine g_iald h (v := T 9 a1.toNatClampNeg) (uMr M0 k _ _ _) (inS hk 9 (by decide)) dX4_outcome_17 ?_
    refine g_ni (fun v3 => ?_)
    refine g_iconst h 1 dX4_outcome_18 (by decide) ?_
    refine g_icmp_ne h 26 dX4_outcome_19 (by decide) (fun hc4 => ?_) (fun hc4 => ?_)
    · skip
      refine g_iload_n h 3 dX4_outcome_22 rfl rfl ?_
      refine g_goto h (tgt := 27) dX4_outcome_23 (by decide) ?_
      exact g_iret hR rfl dX4_outcome_27
    · skip
      refine g_iconst h 0 dX4_outcome_26 (by decide) ?_
      exact g_iret hR rfl dX4_outcome_27
theorem n_X4_hit_4 : ∀ w ∈ wsX40, w ∈ wsX4_hit := by decide +kernel
set_option maxHeartbeats 4000000 in
set_option maxRecDepth 100000 in
theorem b_X4_hit_112 {Γ : Cx} {l : Launch} {ω : Wd} {M0 : Mm} {k : Nat} (hk : kS k) (h : CxOk Γ l ⟨3, 0, 0, 68⟩ 6 ω LC cX4_hit yX4_hit.cls wsX4_hit) (hR : RetI Γ ω LC cX4_hit .int) : ∀ (b1 : Int32) (b2 : Int32) (s1 : Int32) (s2 : Int32) (s3 : Int32) (T : Tm), Gq Γ ω LC (uM M0 k) 112 [(0, .ref (th ω k 0)), (1, .int b1), (2, .int b2)] [.int s3, .int s2, .int s1, .ref (th ω k 6)] T (m_X4_hit_112 b1 b2 s1 s2 s3 T) := by
  intro b1 b2 s1 s2 s3 T
  unfold m_X4_hit_112
  refine g_iadd h dX4_hit_112 ?_
  refine g_bipush h 20 dX4_hit_113 (by decide) ?_
  refine g_min h (index := 86) (by decide +kernel) (by decide +kernel) (by decide +kernel) (by decide +kernel) (by decide) (Nat.le_of_ble_eq_true rfl) dX4_hit_115 ?_
  refine g_ni (fun v1 => ?_)
  refine g_iast h (x' := wT T 6 s1.toNatClampNeg v1) (wM_uM M0 k _ _ _ _).symm (inS hk 6 (by decide)) dX4_hit_118 ?_
  refine g_nm (fun T2 => ?_)
  refine g_aload_n h 0 dX4_hit_119 rfl rfl ?_
  refine g_getR h (index := 27) (j := 5) (inS hk 0 (by decide)) (C := RX4) (T := TX4) (N := 13) rfl n_X4_hit_4 (by decide) rfl (by decide +kernel) dX4_hit_120 ?_
  refine g_iload_n h 2 dX4_hit_123 rfl rfl ?_
  refine g_aload_n h 0 dX4_hit_124 rfl rfl ?_
  refine g_getR h (index := 27) (j := 5) (inS hk 0 (by decide)) (C := RX4) (T := TX4) (N := 13) rfl n_X4_hit_4 (by decide) rfl (by decide +kernel) dX4_hit_125 ?_
  refine g_iload_n h 2 dX4_hit_128 rfl rfl ?_
  refine g_iald h (v := T2 6 b2.toNatClampNeg) (uMr M0 k _ _ _) (inS hk 6 (by decide)) dX4_hit_129 ?_
  refine g_ni (fun v3 => ?_)
  refine g_iconst h 1 dX4_hit_130 (by decide) ?_
  refine g_iadd h dX4_hit_131 ?_
  refine g_bipush h 20 dX4_hit_132 (by decide) ?_
  refine g_min h (index := 86) (by decide +kernel) (by decide +kernel) (by decide +kernel) (by decide +kernel) (by decide) (Nat.le_of_ble_eq_true rfl) dX4_hit_134 ?_
  refine g_ni (fun v4 => ?_)
  refine g_iast h (x' := wT T2 6 b2.toNatClampNeg v4) (wM_uM M0 k _ _ _ _).symm (inS hk 6 (by decide)) dX4_hit_137 ?_
  refine g_nm (fun T5 => ?_)
  refine g_aload_n h 0 dX4_hit_138 rfl rfl ?_
  refine g_iload_n h 1 dX4_hit_139 rfl rfl ?_
  refine g_iload_n h 2 dX4_hit_140 rfl rfl ?_
  refine g_callV h (As := [.int b1, .int b2]) (fun t => t) (fun r t hG => c_X4_settleSmashes l ω k hk M0 _ b1 b2 hG) (inS hk 0 (by decide)) (C := RX4) (T := TX4) (N := 13) rfl 2 rfl gX4_hit_X4_settleSmashes rfl rfl rfl (by decide +kernel) (by decide) (st0 := _) rfl (Nat.le_of_ble_eq_true rfl) dX4_hit_141 (fun r6 T7 => ?_)
  refine g_aload_n h 0 dX4_hit_144 rfl rfl ?_
  refine g_iload_n h 1 dX4_hit_145 rfl rfl ?_
  refine g_callV h (As := [.int b1]) (fun t => t) (fun r t hG => c_X4_fallIfWorn l ω k hk M0 _ b1 hG) (inS hk 0 (by decide)) (C := RX4) (T := TX4) (N := 13) rfl 1 rfl gX4_hit_X4_fallIfWorn rfl rfl rfl (by decide +kernel) (by decide) (st0 := _) rfl (Nat.le_of_ble_eq_true rfl) dX4_hit_146 (fun r8 T9 => ?_)
  refine g_aload_n h 0 dX4_hit_149 rfl rfl ?_
  refine g_iload_n h 2 dX4_hit_150 rfl rfl ?_
  refine g_callV h (As := [.int b2]) (fun t => t) (fun r t hG => c_X4_fallIfWorn l ω k hk M0 _ b2 hG) (inS hk 0 (by decide)) (C := RX4) (T := TX4) (N := 13) rfl 1 rfl gX4_hit_X4_fallIfWorn rfl rfl rfl (by decide +kernel) (by decide) (st0 := _) rfl (Nat.le_of_ble_eq_true rfl) dX4_hit_151 (fun r10 T11 => ?_)
  refine g_aload_n h 0 dX4_hit_154 rfl rfl ?_
  refine g_iload_n h 1 dX4_hit_155 rfl rfl ?_
  refine g_iconst h 1 dX4_hit_156 (by decide) ?_
  refine g_iconst h 4 dX4_hit_157 (by decide) ?_
  refine g_callI h (As := [.int b1, .int 1, .int 4]) (fun t => t) (fun r t hG => c_X4_outcome l ω k hk M0 _ b1 1 4 hG) (inS hk 0 (by decide)) (C := RX4) (T := TX4) (N := 13) rfl 3 rfl gX4_hit_X4_outcome rfl rfl rfl (by decide +kernel) (by decide) (st0 := _) rfl (Nat.le_of_ble_eq_true rfl) dX4_hit_158 (fun r12 T13 => ?_)
  refine g_aload_n h 0 dX4_hit_161 rfl rfl ?_
  refine g_iload_n h 2 dX4_hit_162 rfl rfl ?_
  refine g_iconst h 2 dX4_hit_163 (by decide) ?_
  refine g_bipush h 8 dX4_hit_164 (by decide) ?_
  refine g_callI h (As := [.int b2, .int 2, .int 8]) (fun t => t) (fun r t hG => c_X4_outcome l ω k hk M0 _ b2 2 8 hG) (inS hk 0 (by decide)) (C := RX4) (T := TX4) (N := 13) rfl 3 rfl gX4_hit_X4_outcome rfl rfl rfl (by decide +kernel) (by decide) (st0 := _) rfl (Nat.le_of_ble_eq_true rfl) dX4_hit_166 (fun r14 T15 => ?_)
  refine g_iadd h dX4_hit_169 ?_
  exact g_iret hR rfl dX4_hit_170
set_option maxHeartbeats 4000000 in
set_option maxRecDepth 100000 in
theorem c_X4_hit (l : Launch) (ω : Wd) (k : Nat) (hk : kS k) (M0 : Mm) (T : Tm) (a1 : Int32) (a2 : Int32) (a3 : Int32) {r : Int32} {T' : Tm} (hm : m_X4_hit a1 a2 a3 T = some (r, T')) : MI l yX4_hit wsX4_hit ⟨3, 0, 0, 68⟩ ω LC [.ref (th ω k 0), .int a1, .int a2, .int a3] (uM M0 k T) r (uM M0 k T') := by
  refine met_i (cc := cX4_hit) (maxL := 6) (ty := .int) (by decide +kernel) rfl (Nat.le_of_ble_eq_true rfl) LC_nd ?_
  intro Γ h hR ht
  suffices K : Gq Γ ω LC (uM M0 k) 0 [(0, .ref (th ω k 0)), (1, .int a1), (2, .int a2), (3, .int a3)] [] T (m_X4_hit a1 a2 a3 T) from K (r, T') hm ht
  unfold m_X4_hit
  refine g_iload_n h 3 dX4_hit_0 rfl rfl ?_
  refine g_aload_n h 0 dX4_hit_1 rfl rfl ?_
  refine g_getR h (index := 21) (j := 3) (inS hk 0 (by decide)) (C := RX4) (T := TX4) (N := 13) rfl n_X4_hit_4 (by decide) rfl (by decide +kernel) dX4_hit_2 ?_
  refine g_iload_n h 1 dX4_hit_5 rfl rfl ?_
  refine g_iald h (v := T 4 a1.toNatClampNeg) (uMr M0 k _ _ _) (inS hk 4 (by decide)) dX4_hit_6 ?_
  refine g_ni (fun v1 => ?_)
  refine g_imul h dX4_hit_7 ?_
  refine g_aload_n h 0 dX4_hit_8 rfl rfl ?_
  refine g_getR h (index := 21) (j := 3) (inS hk 0 (by decide)) (C := RX4) (T := TX4) (N := 13) rfl n_X4_hit_4 (by decide) rfl (by decide +kernel) dX4_hit_9 ?_
  refine g_iload_n h 2 dX4_hit_12 rfl rfl ?_
  refine g_iald h (v := T 4 a2.toNatClampNeg) (uMr M0 k _ _ _) (inS hk 4 (by decide)) dX4_hit_13 ?_
  refine g_ni (fun v2 => ?_)
  refine g_callP h (As := [.int (a3 * v1), .int v2]) (fun r t hG => c_X4_quotient l ω M00 (a3 * v1) v2 hG) 2 rfl gX4_hit_X4_quotient rfl rfl rfl (by decide +kernel) (by decide) (st0 := _) rfl (Nat.le_of_ble_eq_true rfl) dX4_hit_14 (fun r3 => ?_)
  refine g_istore h (lv' := [(4, .int r3), (0, .ref (th ω k 0)), (1, .int a1), (2, .int a2), (3, .int a3)]) dX4_hit_17 (by decide) [0, 1, 2, 3, 4] rfl ?_
  refine g_iload_n h 4 dX4_hit_19 rfl rfl ?_
  refine g_aload_n h 1 dX4_hit_20 rfl rfl ?_
  refine g_getR h (index := 21) (j := 3) (inS hk 0 (by decide)) (C := RX4) (T := TX4) (N := 13) rfl n_X4_hit_4 (by decide) rfl (by decide +kernel) dX4_hit_21 ?_
  refine g_iload_n h 3 dX4_hit_24 rfl rfl ?_
  refine g_iald h (v := T 4 a2.toNatClampNeg) (uMr M0 k _ _ _) (inS hk 4 (by decide)) dX4_hit_25 ?_
  refine g_ni (fun v4 => ?_)
  refine g_imul h dX4_hit_26 ?_
  refine g_iconst h 2 dX4_hit_27 (by decide) ?_
  refine g_aload_n h 1 dX4_hit_28 rfl rfl ?_
  refine g_getR h (index := 21) (j := 3) (inS hk 0 (by decide)) (C := RX4) (T := TX4) (N := 13) rfl n_X4_hit_4 (by decide) rfl (by decide +kernel) dX4_hit_29 ?_
  refine g_iload_n h 2 dX4_hit_32 rfl rfl ?_
  refine g_iald h (v := T 4 a1.toNatClampNeg) (uMr M0 k _ _ _) (inS hk 4 (by decide)) dX4_hit_33 ?_
  refine g_ni (fun v5 => ?_)
  refine g_imul h dX4_hit_34 ?_
  refine g_callP h (As := [.int (a3 * v4), .int (2 * v5)]) (fun r t hG => c_X4_quotient l ω M00 (a3 * v4) (2 * v5) hG) 2 rfl gX4_hit_X4_quotient rfl rfl rfl (by decide +kernel) (by decide) (st0 := _) rfl (Nat.le_of_ble_eq_true rfl) dX4_hit_35 (fun r6 => ?_)
  refine g_istore h (lv' := [(5, .int r6), (4, .int r3), (0, .ref (th ω k 0)), (1, .int a1), (2, .int a2), (3, .int a3)]) dX4_hit_38 (by decide) [0, 1, 2, 3, 4, 5] rfl ?_
  refine g_aload_n h 2 dX4_hit_40 rfl rfl ?_
  refine g_dup h dX4_hit_41 rfl ?_
  refine g_getI h (v := T 0 12) (uMr M0 k _ _ _) (index := 49) (j := 12) (inS hk 0 (by decide)) (C := RX4) (T := TX4) (N := 13) rfl n_X4_hit_4 (by decide) rfl (by decide +kernel) dX4_hit_42 ?_
  refine g_ni (fun v7 => ?_)
  refine g_iconst h 1 dX4_hit_45 (by decide) ?_
  refine g_iadd h dX4_hit_46 ?_
  refine g_putI h (x' := wT T 0 12 (v7 + 1)) (wM_uM M0 k _ _ _ _).symm (index := 49) (j := 12) (inS hk 0 (by decide)) (C := RX4) (T := TX4) (N := 13) rfl n_X4_hit_4 tyX4_ok nmX4 (by decide) rfl (by decide +kernel) rfl (ty := .int) (by decide +kernel) rfl rfl dX4_hit_47 ?_
  refine g_nm (fun T8 => ?_)
  refine g_aload_n h 2 dX4_hit_50 rfl rfl ?_
  refine g_getR h (index := 24) (j := 4) (inS hk 0 (by decide)) (C := RX4) (T := TX4) (N := 13) rfl n_X4_hit_4 (by decide) rfl (by decide +kernel) dX4_hit_51 ?_
  refine g_iload_n h 4 dX4_hit_54 rfl rfl ?_
  refine g_aload_n h 2 dX4_hit_55 rfl rfl ?_
  refine g_getR h (index := 24) (j := 4) (inS hk 0 (by decide)) (C := RX4) (T := TX4) (N := 13) rfl n_X4_hit_4 (by decide) rfl (by decide +kernel) dX4_hit_56 ?_
  refine g_iload_n h 4 dX4_hit_59 rfl rfl ?_
  refine g_iald h (v := T8 5 a2.toNatClampNeg) (uMr M0 k _ _ _) (inS hk 5 (by decide)) dX4_hit_60 ?_
  refine g_ni (fun v9 => ?_)
  refine g_iload h 1 dX4_hit_61 rfl ?_
  refine g_iadd h dX4_hit_63 ?_
  refine g_bipush h 100 dX4_hit_64 (by decide) ?_
  refine g_min h (index := 86) (by decide +kernel) (by decide +kernel) (by decide +kernel) (by decide +kernel) (by decide) (Nat.le_of_ble_eq_true rfl) dX4_hit_66 ?_
  refine g_ni (fun v10 => ?_)
  refine g_iast h (x' := wT T8 5 a2.toNatClampNeg v10) (wM_uM M0 k _ _ _ _).symm (inS hk 5 (by decide)) dX4_hit_69 ?_
  refine g_nm (fun T11 => ?_)
  refine g_aload_n h 2 dX4_hit_70 rfl rfl ?_
  refine g_getR h (index := 24) (j := 4) (inS hk 0 (by decide)) (C := RX4) (T := TX4) (N := 13) rfl n_X4_hit_4 (by decide) rfl (by decide +kernel) dX4_hit_71 ?_
  refine g_iload_n h 3 dX4_hit_74 rfl rfl ?_
  refine g_aload_n h 2 dX4_hit_75 rfl rfl ?_
  refine g_getR h (index := 24) (j := 4) (inS hk 0 (by decide)) (C := RX4) (T := TX4) (N := 13) rfl n_X4_hit_4 (by decide) rfl (by decide +kernel) dX4_hit_76 ?_
  refine g_iload_n h 3 dX4_hit_79 rfl rfl ?_
  refine g_iald h (v := T11 5 a1.toNatClampNeg) (uMr M0 k _ _ _) (inS hk 5 (by decide)) dX4_hit_80 ?_
  refine g_ni (fun v12 => ?_)
  refine g_iload h 0 dX4_hit_81 rfl ?_
  refine g_iadd h dX4_hit_83 ?_
  refine g_bipush h 100 dX4_hit_84 (by decide) ?_
  refine g_min h (index := 86) (by decide +kernel) (by decide +kernel) (by decide +kernel) (by decide +kernel) (by decide) (Nat.le_of_ble_eq_true rfl) dX4_hit_86 ?_
  refine g_ni (fun v13 => ?_)
  refine g_iast h (x' := wT T11 5 a1.toNatClampNeg v13) (wM_uM M0 k _ _ _ _).symm (inS hk 5 (by decide)) dX4_hit_89 ?_
  refine g_nm (fun T14 => ?_)
  refine g_aload_n h 2 dX4_hit_90 rfl rfl ?_
  refine g_getR h (index := 27) (j := 5) (inS hk 0 (by decide)) (C := RX4) (T := TX4) (N := 13) rfl n_X4_hit_4 (by decide) rfl (by decide +kernel) dX4_hit_91 ?_
  refine g_iload_n h 3 dX4_hit_94 rfl rfl ?_
  refine g_aload_n h 2 dX4_hit_95 rfl rfl ?_
  refine g_getR h (index := 27) (j := 5) (inS hk 0 (by decide)) (C := RX4) (T := TX4) (N := 13) rfl n_X4_hit_4 (by decide) rfl (by decide +kernel) dX4_hit_96 ?_
  refine g_iload_n h 3 dX4_hit_99 rfl rfl ?_
  refine g_iald h (v := T14 6 a1.toNatClampNeg) (uMr M0 k _ _ _) (inS hk 6 (by decide)) dX4_hit_100 ?_
  refine g_ni (fun v15 => ?_)
  refine g_iload_n h 5 dX4_hit_101 rfl rfl ?_
  refine g_bipush h 6 dX4_hit_102 (by decide) ?_
  refine g_icmp_le h 111 dX4_hit_104 (by decide) (fun hc16 => ?_) (fun hc16 => ?_)
  · skip
    refine g_iconst h 1 dX4_hit_111 (by decide) ?_
    refine g_sub (lv' := [(0, .ref (th ω k 0)), (1, .int a1), (2, .int a2)]) [2, 3, 4] rfl ?_
    exact b_X4_hit_112 hk h hR _ _ _ _ _ _
  · skip
    refine g_iconst h 2 dX4_hit_107 (by decide) ?_
    refine g_goto h (tgt := 112) dX4_hit_108 (by decide) ?_
    refine g_sub (lv' := [(0, .ref (th ω k 0)), (1, .int a1), (2, .int a2)]) [2, 3, 4] rfl ?_
    exact b_X4_hit_112 hk h hR _ _ _ _ _ _
set_option maxHeartbeats 4000000 in
set_option maxRecDepth 100000 in
theorem b_X4_fight_66 {Γ : Cx} {l : Launch} {ω : Wd} {k : Nat} (hk : kS k) (h : CxOk Γ l ⟨4, 0, 0, 93⟩ 8 ω LC cX4_fight yX4_fight.cls wsX4_fight) (hR : RetI Γ ω LC cX4_fight .int) : ∀ (b6 : Int32) (M : Mm), Gq Γ ω LC eI 66 [(6, .int b6)] [] M (m_X4_fight_66 k b6 M) := by
  intro b6 M
  unfold m_X4_fight_66
  refine g_iload h 0 dX4_fight_66 rfl ?_
  exact g_iret hR rfl dX4_fight_68
set_option maxHeartbeats 4000000 in
set_option maxRecDepth 100000 in
theorem b_X4_fight_17 {Γ : Cx} {l : Launch} {ω : Wd} {k : Nat} (hk : kS k) (h : CxOk Γ l ⟨4, 0, 0, 93⟩ 8 ω LC cX4_fight yX4_fight.cls wsX4_fight) (hR : RetI Γ ω LC cX4_fight .int) : ∀ (n : Nat) (b4 : Int32) (b5 : Int32) (b6 : Int32) (M : Mm), Gq Γ ω LC eI 17 [(0, .ref (th ω k 0)), (3, .ref (th ω 10 0)), (4, .int b4), (5, .int b5), (6, .int b6)] [] M (m_X4_fight_17 k n b4 b5 b6 M) := by
  intro n
  induction n with
  | zero =>
    intro b4 b5 b6 M
    rw [m_X4_fight_17.eq_1]
    exact g_none
  | succ n ih =>
    intro b4 b5 b6 M
    rw [m_X4_fight_17.eq_2]
    refine g_iload h 4 dX4_fight_17 rfl ?_
    refine g_bipush h 20 dX4_fight_19 (by decide) ?_
    refine g_icmp_ge h 66 dX4_fight_21 (by decide) (fun hc1 => ?_) (fun hc1 => ?_)
    · skip
      refine g_sub (lv' := [(6, .int b6)]) [4] rfl ?_
      exact b_X4_fight_66 hk h hR _ _
    · skip
      refine g_aload_n h 0 dX4_fight_24 rfl rfl ?_
      refine g_iload h 2 dX4_fight_25 rfl ?_
      refine g_iload h 3 dX4_fight_27 rfl ?_
      refine g_callI h (As := [.int b4, .int b5]) (fun t => uM M k t) (fun r t hG => MI_self (c_X4_areInPlay l ω k hk M _ b4 b5 hG)) (inS hk 0 (by decide)) (C := RX4) (T := TX4) (N := 13) rfl 2 rfl gX4_fight_X4_areInPlay rfl rfl rfl (by decide +kernel) (by decide) (st0 := _) rfl (Nat.le_of_ble_eq_true rfl) dX4_fight_29 (fun r2 M3 => ?_)
      refine g_nm (fun M4 => ?_)
      refine g_if_eq h 66 dX4_fight_32 (by decide) (fun hc5 => ?_) (fun hc5 => ?_)
      · skip
        refine g_sub (lv' := [(6, .int b6)]) [4] rfl ?_
        exact b_X4_fight_66 hk h hR _ _
      · skip
        refine g_aload_n h 0 dX4_fight_35 rfl rfl ?_
        refine g_iload h 2 dX4_fight_36 rfl ?_
        refine g_iload h 3 dX4_fight_38 rfl ?_
        refine g_aload_n h 1 dX4_fight_40 rfl rfl ?_
        refine g_callI h (As := []) (fun t => uM M4 10 t) (fun r t hG => MI_self (c_X0_swing l ω M4 _ hG)) iC_10_0 (C := RX0) (T := TX0) (N := 1) rfl 0 rfl gX4_fight_X0_swing rfl rfl rfl (by decide +kernel) (by decide) (st0 := _) rfl (Nat.le_of_ble_eq_true rfl) dX4_fight_41 (fun r6 M7 => ?_)
        refine g_nm (fun M8 => ?_)
        refine g_callI h (As := [.int b4, .int b5, .int r6]) (fun t => uM M8 k t) (fun r t hG => MI_self (c_X4_hit l ω k hk M8 _ b4 b5 r6 hG)) (inS hk 0 (by decide)) (C := RX4) (T := TX4) (N := 13) rfl 3 rfl gX4_fight_X4_hit rfl rfl rfl (by decide +kernel) (by decide) (st0 := _) rfl (Nat.le_of_ble_eq_true rfl) dX4_fight_44 (fun r9 M10 => ?_)
        refine g_nm (fun M11 => ?_)
        refine g_pop h dX4_fight_47 rfl ?_
        refine g_iload h 3 dX4_fight_48 rfl ?_
        refine g_istore h (lv' := [(7, .int b5), (0, .ref (th ω k 0)), (3, .ref (th ω 10 0)), (4, .int b4), (5, .int b5), (6, .int b6)]) dX4_fight_50 (by decide) [0, 1, 2, 3, 4, 5] rfl ?_
        refine g_iload h 3 dX4_fight_52 rfl ?_
        refine g_istore h (lv' := [(5, .int b4), (7, .int b5), (0, .ref (th ω k 0)), (3, .ref (th ω 10 0)), (4, .int b4), (6, .int b6)]) dX4_fight_54 (by decide) [0, 1, 2, 3, 4, 5] rfl ?_
        refine g_iload h 1 dX4_fight_56 rfl ?_
        refine g_istore h (lv' := [(4, .int b5), (5, .int b4), (7, .int b5), (0, .ref (th ω k 0)), (3, .ref (th ω 10 0)), (6, .int b6)]) dX4_fight_58 (by decide) [0, 1, 2, 3, 4, 5] rfl ?_
        refine g_iinc h (b6 + 1) (lv' := [(6, .int (b6 + 1)), (4, .int b5), (5, .int b4), (7, .int b5), (0, .ref (th ω k 0)), (3, .ref (th ω 10 0))]) dX4_fight_60 5 rfl (congrArg (fun z => b6 + z) (by decide)) (by decide) [0, 1, 2, 3, 4, 5] rfl ?_
        refine g_goto h (tgt := 17) dX4_fight_63 (by decide) ?_
        refine g_sub (lv' := [(0, .ref (th ω k 0)), (3, .ref (th ω 10 0)), (4, .int b5), (5, .int b4), (6, .int (b6 + 1))]) [4, 5, 1, 2, 0] rfl ?_
        exact ih _ _ _ _
set_option maxHeartbeats 4000000 in
set_option maxRecDepth 100000 in
theorem c_X4_fight (l : Launch) (ω : Wd) (k : Nat) (hk : kS k) (M : Mm) (a1 : Int32) (a2 : Int32) {r : Int32} {M' : Mm} (hm : m_X4_fight k a1 a2 M = some (r, M')) : MI l yX4_fight wsX4_fight ⟨4, 0, 0, 93⟩ ω LC [.ref (th ω k 0), .int a1, .int a2, .ref (th ω 10 0)] M r M' := by
  refine met_i (cc := cX4_fight) (maxL := 8) (ty := .int) (by decide +kernel) rfl (Nat.le_of_ble_eq_true rfl) LC_nd ?_
  intro Γ h hR ht
  suffices K : Gq Γ ω LC eI 0 [(0, .ref (th ω k 0)), (1, .int a1), (2, .int a2), (3, .ref (th ω 10 0))] [] M (m_X4_fight k a1 a2 M) from K (r, M') hm ht
  unfold m_X4_fight
  refine g_iload_n h 1 dX4_fight_0 rfl rfl ?_
  refine g_iload_n h 2 dX4_fight_1 rfl rfl ?_
  refine g_min h (index := 86) (by decide +kernel) (by decide +kernel) (by decide +kernel) (by decide +kernel) (by decide) (Nat.le_of_ble_eq_true rfl) dX4_fight_2 ?_
  refine g_ni (fun v1 => ?_)
  refine g_istore h (lv' := [(4, .int v1), (0, .ref (th ω k 0)), (1, .int a1), (2, .int a2), (3, .ref (th ω 10 0))]) dX4_fight_5 (by decide) [0, 1, 2, 3, 4] rfl ?_
  refine g_iload_n h 2 dX4_fight_7 rfl rfl ?_
  refine g_iload_n h 3 dX4_fight_8 rfl rfl ?_
  refine g_max h (index := 103) (by decide +kernel) (by decide +kernel) (by decide +kernel) (by decide +kernel) (by decide) (Nat.le_of_ble_eq_true rfl) dX4_fight_9 ?_
  refine g_ni (fun v2 => ?_)
  refine g_istore h (lv' := [(5, .int v2), (4, .int v1), (0, .ref (th ω k 0)), (1, .int a1), (2, .int a2), (3, .ref (th ω 10 0))]) dX4_fight_12 (by decide) [0, 1, 2, 3, 4, 5] rfl ?_
  refine g_iconst h 0 dX4_fight_14 (by decide) ?_
  refine g_istore h (lv' := [(6, .int 0), (5, .int v2), (4, .int v1), (0, .ref (th ω k 0)), (1, .int a1), (2, .int a2), (3, .ref (th ω 10 0))]) dX4_fight_15 (by decide) [0, 1, 2, 3, 4, 5, 6] rfl ?_
  refine g_sub (lv' := [(0, .ref (th ω k 0)), (3, .ref (th ω 10 0)), (4, .int v1), (5, .int v2), (6, .int 0)]) [3, 6, 2, 1, 0] rfl ?_
  exact b_X4_fight_17 hk h hR fu _ _ _ _
theorem n_X4_isInLineOf_4 : ∀ w ∈ wsX40, w ∈ wsX4_isInLineOf := by decide +kernel
set_option maxHeartbeats 4000000 in
set_option maxRecDepth 100000 in
theorem b_X4_isInLineOf_10 {Γ : Cx} {l : Launch} {ω : Wd} {M0 : Mm} {k : Nat} (hk : kS k) (h : CxOk Γ l ⟨2, 0, 0, 43⟩ 5 ω LC cX4_isInLineOf yX4_isInLineOf.cls wsX4_isInLineOf) (hR : RetI Γ ω LC cX4_isInLineOf .boolean) : ∀ (n : Nat) (b2 : Int32) (b3 : Int32) (b4 : Int32) (T : Tm), Gq Γ ω LC (uM M0 k) 10 [(0, .ref (th ω k 0)), (2, .int b2), (3, .int b3), (4, .int b4)] [] T (m_X4_isInLineOf_10 n b2 b3 b4 T) := by
  intro n
  induction n with
  | zero =>
    intro b2 b3 b4 T
    rw [m_X4_isInLineOf_10.eq_1]
    exact g_none
  | succ n ih =>
    intro b2 b3 b4 T
    rw [m_X4_isInLineOf_10.eq_2]
    refine g_iload h 3 dX4_isInLineOf_10 rfl ?_
    refine g_aload_n h 0 dX4_isInLineOf_12 rfl rfl ?_
    refine g_getI h (v := T 0 10) (uMr M0 k _ _ _) (index := 42) (j := 10) (inS hk 0 (by decide)) (C := RX4) (T := TX4) (N := 13) rfl n_X4_isInLineOf_4 (by decide) rfl (by decide +kernel) dX4_isInLineOf_13 ?_
    refine g_ni (fun v1 => ?_)
    refine g_icmp_ge h 47 dX4_isInLineOf_16 (by decide) (fun hc2 => ?_) (fun hc2 => ?_)
    · skip
      refine g_iconst h 0 dX4_isInLineOf_47 (by decide) ?_
      exact g_iret hR (by decide) dX4_isInLineOf_48
    · skip
      refine g_aload_n h 0 dX4_isInLineOf_19 rfl rfl ?_
      refine g_iload_n h 2 dX4_isInLineOf_20 rfl rfl ?_
      refine g_callI h (As := [.int b3]) (fun t => t) (fun r t hG => c_X4_hasConker l ω k hk M0 _ b3 hG) (inS hk 0 (by decide)) (C := RX4) (T := TX4) (N := 13) rfl 1 rfl gX4_isInLineOf_X4_hasConker rfl rfl rfl (by decide +kernel) (by decide) (st0 := _) rfl (Nat.le_of_ble_eq_true rfl) dX4_isInLineOf_21 (fun r3 T4 => ?_)
      refine g_if_eq h 47 dX4_isInLineOf_24 (by decide) (fun hc5 => ?_) (fun hc5 => ?_)
      · skip
        refine g_iconst h 0 dX4_isInLineOf_47 (by decide) ?_
        exact g_iret hR (by decide) dX4_isInLineOf_48
      · skip
        refine g_iload_n h 2 dX4_isInLineOf_27 rfl rfl ?_
        refine g_iload_n h 1 dX4_isInLineOf_28 rfl rfl ?_
        refine g_icmp_ne h 34 dX4_isInLineOf_29 (by decide) (fun hc6 => ?_) (fun hc6 => ?_)
        · skip
          refine g_iconst h 1 dX4_isInLineOf_32 (by decide) ?_
          exact g_iret hR (by decide) dX4_isInLineOf_33
        · skip
          refine g_aload_n h 0 dX4_isInLineOf_34 rfl rfl ?_
          refine g_getR h (index := 39) (j := 9) (inS hk 0 (by decide)) (C := RX4) (T := TX4) (N := 13) rfl n_X4_isInLineOf_4 (by decide) rfl (by decide +kernel) dX4_isInLineOf_35 ?_
          refine g_iload_n h 2 dX4_isInLineOf_38 rfl rfl ?_
          refine g_iald h (v := T4 10 b3.toNatClampNeg) (uMr M0 k _ _ _) (inS hk 10 (by decide)) dX4_isInLineOf_39 ?_
          refine g_ni (fun v7 => ?_)
          refine g_istore_n h rfl (lv' := [(3, .int v7), (0, .ref (th ω k 0)), (2, .int b2), (4, .int b4)]) dX4_isInLineOf_40 (by decide) [0, 1, 2, 3] rfl ?_
          refine g_iinc h (b4 + 1) (lv' := [(4, .int (b4 + 1)), (3, .int v7), (0, .ref (th ω k 0)), (2, .int b2)]) dX4_isInLineOf_41 3 rfl (congrArg (fun z => b4 + z) (by decide)) (by decide) [0, 1, 2, 3] rfl ?_
          refine g_goto h (tgt := 10) dX4_isInLineOf_44 (by decide) ?_
          refine g_sub (lv' := [(0, .ref (th ω k 0)), (2, .int b2), (3, .int v7), (4, .int (b4 + 1))]) [2, 3, 1, 0] rfl ?_
          exact ih _ _ _ _
set_option maxHeartbeats 4000000 in
set_option maxRecDepth 100000 in
theorem c_X4_isInLineOf (l : Launch) (ω : Wd) (k : Nat) (hk : kS k) (M0 : Mm) (T : Tm) (a1 : Int32) (a2 : Int32) {r : Int32} {T' : Tm} (hm : m_X4_isInLineOf a1 a2 T = some (r, T')) : MI l yX4_isInLineOf wsX4_isInLineOf ⟨2, 0, 0, 43⟩ ω LC [.ref (th ω k 0), .int a1, .int a2] (uM M0 k T) r (uM M0 k T') := by
  refine met_i (cc := cX4_isInLineOf) (maxL := 5) (ty := .boolean) (by decide +kernel) rfl (Nat.le_of_ble_eq_true rfl) LC_nd ?_
  intro Γ h hR ht
  suffices K : Gq Γ ω LC (uM M0 k) 0 [(0, .ref (th ω k 0)), (1, .int a1), (2, .int a2)] [] T (m_X4_isInLineOf a1 a2 T) from K (r, T') hm ht
  unfold m_X4_isInLineOf
  refine g_aload_n h 0 dX4_isInLineOf_0 rfl rfl ?_
  refine g_getR h (index := 39) (j := 9) (inS hk 0 (by decide)) (C := RX4) (T := TX4) (N := 13) rfl n_X4_isInLineOf_4 (by decide) rfl (by decide +kernel) dX4_isInLineOf_1 ?_
  refine g_iload_n h 1 dX4_isInLineOf_4 rfl rfl ?_
  refine g_iald h (v := T 10 a1.toNatClampNeg) (uMr M0 k _ _ _) (inS hk 10 (by decide)) dX4_isInLineOf_5 ?_
  refine g_ni (fun v1 => ?_)
  refine g_istore_n h rfl (lv' := [(3, .int v1), (0, .ref (th ω k 0)), (1, .int a1), (2, .int a2)]) dX4_isInLineOf_6 (by decide) [0, 1, 2, 3] rfl ?_
  refine g_iconst h 0 dX4_isInLineOf_7 (by decide) ?_
  refine g_istore h (lv' := [(4, .int 0), (3, .int v1), (0, .ref (th ω k 0)), (1, .int a1), (2, .int a2)]) dX4_isInLineOf_8 (by decide) [0, 1, 2, 3, 4] rfl ?_
  refine g_sub (lv' := [(0, .ref (th ω k 0)), (2, .int a2), (3, .int v1), (4, .int 0)]) [2, 4, 1, 0] rfl ?_
  exact b_X4_isInLineOf_10 hk h hR fu _ _ _ _
theorem n_X4_lengthOfLine_4 : ∀ w ∈ wsX40, w ∈ wsX4_lengthOfLine := by decide +kernel
set_option maxHeartbeats 4000000 in
set_option maxRecDepth 100000 in
theorem b_X4_lengthOfLine_24 {Γ : Cx} {l : Launch} {ω : Wd} {M0 : Mm} {k : Nat} (hk : kS k) (h : CxOk Γ l ⟨3, 0, 0, 67⟩ 4 ω LC cX4_lengthOfLine yX4_lengthOfLine.cls wsX4_lengthOfLine) (hR : RetI Γ ω LC cX4_lengthOfLine .int) (κ4 : Int32 → Int32 → Int32 → Tm → Option (Int32 × Tm)) (hκ4 : ∀ (b1 : Int32) (b2 : Int32) (b3 : Int32) (T : Tm), Gq Γ ω LC (uM M0 k) 4 [(0, .ref (th ω k 0)), (1, .int b1), (2, .int b2), (3, .int b3)] [] T (κ4 b1 b2 b3 T)) : ∀ (b1 : Int32) (b2 : Int32) (b3 : Int32) (T : Tm), Gq Γ ω LC (uM M0 k) 24 [(0, .ref (th ω k 0)), (1, .int b1), (2, .int b2), (3, .int b3)] [] T (m_X4_lengthOfLine_24 κ4 b1 b2 b3 T) := by
  intro b1 b2 b3 T
  unfold m_X4_lengthOfLine_24
  refine g_iinc h (b3 + 1) (lv' := [(3, .int (b3 + 1)), (0, .ref (th ω k 0)), (1, .int b1), (2, .int b2)]) dX4_lengthOfLine_24 3 rfl (congrArg (fun z => b3 + z) (by decide)) (by decide) [0, 1, 2, 3] rfl ?_
  refine g_goto h (tgt := 4) dX4_lengthOfLine_27 (by decide) ?_
  refine g_sub (lv' := [(0, .ref (th ω k 0)), (1, .int b1), (2, .int b2), (3, .int (b3 + 1))]) [1, 2, 3, 0] rfl ?_
  exact hκ4 _ _ _ _
set_option maxHeartbeats 4000000 in
set_option maxRecDepth 100000 in
theorem b_X4_lengthOfLine_4 {Γ : Cx} {l : Launch} {ω : Wd} {M0 : Mm} {k : Nat} (hk : kS k) (h : CxOk Γ l ⟨3, 0, 0, 67⟩ 4 ω LC cX4_lengthOfLine yX4_lengthOfLine.cls wsX4_lengthOfLine) (hR : RetI Γ ω LC cX4_lengthOfLine .int) : ∀ (n : Nat) (b1 : Int32) (b2 : Int32) (b3 : Int32) (T : Tm), Gq Γ ω LC (uM M0 k) 4 [(0, .ref (th ω k 0)), (1, .int b1), (2, .int b2), (3, .int b3)] [] T (m_X4_lengthOfLine_4 n b1 b2 b3 T) := by
  intro n
  induction n with
  | zero =>
    intro b1 b2 b3 T
    rw [m_X4_lengthOfLine_4.eq_1]
    exact g_none
  | succ n ih =>
    intro b1 b2 b3 T
    rw [m_X4_lengthOfLine_4.eq_2]
    refine g_iload_n h 3 dX4_lengthOfLine_4 rfl rfl ?_
    refine g_aload_n h 0 dX4_lengthOfLine_5 rfl rfl ?_
    refine g_getI h (v := T 0 10) (uMr M0 k _ _ _) (index := 42) (j := 10) (inS hk 0 (by decide)) (C := RX4) (T := TX4) (N := 13) rfl n_X4_lengthOfLine_4 (by decide) rfl (by decide +kernel) dX4_lengthOfLine_6 ?_
    refine g_ni (fun v1 => ?_)
    refine g_icmp_ge h 30 dX4_lengthOfLine_9 (by decide) (fun hc2 => ?_) (fun hc2 => ?_)
    · skip
      refine g_iload_n h 2 dX4_lengthOfLine_30 rfl rfl ?_
      exact g_iret hR rfl dX4_lengthOfLine_31
    · skip
      refine g_aload_n h 0 dX4_lengthOfLine_12 rfl rfl ?_
      refine g_iload_n h 3 dX4_lengthOfLine_13 rfl rfl ?_
      refine g_iload_n h 1 dX4_lengthOfLine_14 rfl rfl ?_
      refine g_callI h (As := [.int b3, .int b1]) (fun t => t) (fun r t hG => c_X4_isInLineOf l ω k hk M0 _ b3 b1 hG) (inS hk 0 (by decide)) (C := RX4) (T := TX4) (N := 13) rfl 2 rfl gX4_lengthOfLine_X4_isInLineOf rfl rfl rfl (by decide +kernel) (by decide) (st0 := _) rfl (Nat.le_of_ble_eq_true rfl) dX4_lengthOfLine_15 (fun r3 T4 => ?_)
      refine g_if_eq h 24 dX4_lengthOfLine_18 (by decide) (fun hc5 => ?_) (fun hc5 => ?_)
      · skip
        exact b_X4_lengthOfLine_24 hk h hR _ ih _ _ _ _
      · skip
        refine g_iinc h (b2 + 1) (lv' := [(2, .int (b2 + 1)), (0, .ref (th ω k 0)), (1, .int b1), (3, .int b3)]) dX4_lengthOfLine_21 2 rfl (congrArg (fun z => b2 + z) (by decide)) (by decide) [0, 1, 2, 3] rfl ?_
        refine g_sub (lv' := [(0, .ref (th ω k 0)), (1, .int b1), (2, .int (b2 + 1)), (3, .int b3)]) [1, 2, 0, 3] rfl ?_
        exact b_X4_lengthOfLine_24 hk h hR _ ih _ _ _ _
set_option maxHeartbeats 4000000 in
set_option maxRecDepth 100000 in
theorem c_X4_lengthOfLine (l : Launch) (ω : Wd) (k : Nat) (hk : kS k) (M0 : Mm) (T : Tm) (a1 : Int32) {r : Int32} {T' : Tm} (hm : m_X4_lengthOfLine a1 T = some (r, T')) : MI l yX4_lengthOfLine wsX4_lengthOfLine ⟨3, 0, 0, 67⟩ ω LC [.ref (th ω k 0), .int a1] (uM M0 k T) r (uM M0 k T') := by
  refine met_i (cc := cX4_lengthOfLine) (maxL := 4) (ty := .int) (by decide +kernel) rfl (Nat.le_of_ble_eq_true rfl) LC_nd ?_
  intro Γ h hR ht
  suffices K : Gq Γ ω LC (uM M0 k) 0 [(0, .ref (th ω k 0)), (1, .int a1)] [] T (m_X4_lengthOfLine a1 T) from K (r, T') hm ht
  unfold m_X4_lengthOfLine
  refine g_iconst h 0 dX4_lengthOfLine_0 (by decide) ?_
  refine g_istore_n h rfl (lv' := [(2, .int 0), (0, .ref (th ω k 0)), (1, .int a1)]) dX4_lengthOfLine_1 (by decide) [0, 1, 2] rfl ?_
  refine g_iconst h 0 dX4_lengthOfLine_2 (by decide) ?_
  refine g_istore_n h rfl (lv' := [(3, .int 0), (2, .int 0), (0, .ref (th ω k 0)), (1, .int a1)]) dX4_lengthOfLine_3 (by decide) [0, 1, 2, 3] rfl ?_
  refine g_sub (lv' := [(0, .ref (th ω k 0)), (1, .int a1), (2, .int 0), (3, .int 0)]) [2, 3, 1, 0] rfl ?_
  exact b_X4_lengthOfLine_4 hk h hR fu _ _ _ _
theorem n_X4_mendError_4 : ∀ w ∈ wsX40, w ∈ wsX4_mendError := by decide +kernel
set_option maxHeartbeats 4000000 in
set_option maxRecDepth 100000 in
theorem c_X4_mendError (l : Launch) (ω : Wd) (k : Nat) (hk : kS k) (M0 : Mm) (T : Tm) (a1 : Int32) {r : Int32} {T' : Tm} (hm : m_X4_mendError a1 T = some (r, T')) : MI l yX4_mendError wsX4_mendError ⟨3, 0, 0, 64⟩ ω LC [.ref (th ω k 0), .int a1] (uM M0 k T) r (uM M0 k T') := by
  refine met_i (cc := cX4_mendError) (maxL := 3) (ty := .int) (by decide +kernel) rfl (Nat.le_of_ble_eq_true rfl) LC_nd ?_
  intro Γ h hR ht
  suffices K : Gq Γ ω LC (uM M0 k) 0 [(0, .ref (th ω k 0)), (1, .int a1)] [] T (m_X4_mendError a1 T) from K (r, T') hm ht
  unfold m_X4_mendError
  refine g_aload_n h 0 dX4_mendError_0 rfl rfl ?_
  refine g_iload_n h 1 dX4_mendError_1 rfl rfl ?_
  refine g_callI h (As := [.int a1]) (fun t => t) (fun r t hG => c_X4_fallenError l ω k hk M0 _ a1 hG) (inS hk 0 (by decide)) (C := RX4) (T := TX4) (N := 13) rfl 1 rfl gX4_mendError_X4_fallenError rfl rfl rfl (by decide +kernel) (by decide) (st0 := _) rfl (Nat.le_of_ble_eq_true rfl) dX4_mendError_2 (fun r1 T2 => ?_)
  refine g_istore_n h rfl (lv' := [(2, .int r1), (0, .ref (th ω k 0)), (1, .int a1)]) dX4_mendError_5 (by decide) [0, 1, 2] rfl ?_
  refine g_iload_n h 0 dX4_mendError_6 rfl rfl ?_
  refine g_if_eq h 12 dX4_mendError_7 (by decide) (fun hc3 => ?_) (fun hc3 => ?_)
  · skip
    refine g_aload_n h 1 dX4_mendError_12 rfl rfl ?_
    refine g_getR h (index := 9) (j := 0) (inS hk 0 (by decide)) (C := RX4) (T := TX4) (N := 13) rfl n_X4_mendError_4 (by decide) rfl (by decide +kernel) dX4_mendError_13 ?_
    refine g_aload_n h 1 dX4_mendError_16 rfl rfl ?_
    refine g_getR h (index := 18) (j := 2) (inS hk 0 (by decide)) (C := RX4) (T := TX4) (N := 13) rfl n_X4_mendError_4 (by decide) rfl (by decide +kernel) dX4_mendError_17 ?_
    refine g_iload_n h 2 dX4_mendError_20 rfl rfl ?_
    refine g_iald h (v := T2 3 a1.toNatClampNeg) (uMr M0 k _ _ _) (inS hk 3 (by decide)) dX4_mendError_21 ?_
    refine g_ni (fun v4 => ?_)
    refine g_iald h (v := T2 1 v4.toNatClampNeg) (uMr M0 k _ _ _) (inS hk 1 (by decide)) dX4_mendError_22 ?_
    refine g_ni (fun v5 => ?_)
    refine g_iconst h 1 dX4_mendError_23 (by decide) ?_
    refine g_icmp_ge h 32 dX4_mendError_24 (by decide) (fun hc6 => ?_) (fun hc6 => ?_)
    · skip
      refine g_iconst h 0 dX4_mendError_32 (by decide) ?_
      exact g_iret hR rfl dX4_mendError_33
    · skip
      refine g_bipush h (-4) dX4_mendError_27 (by decide) ?_
      refine g_goto h (tgt := 33) dX4_mendError_29 (by decide) ?_
      exact g_iret hR rfl dX4_mendError_33
  · skip
    refine g_iload_n h 0 dX4_mendError_10 rfl rfl ?_
    exact g_iret hR rfl dX4_mendError_11
theorem n_X4_settleBoast_4 : ∀ w ∈ wsX40, w ∈ wsX4_settleBoast := by decide +kernel
set_option maxHeartbeats 4000000 in
set_option maxRecDepth 100000 in
theorem b_X4_settleBoast_25 {Γ : Cx} {l : Launch} {ω : Wd} {M0 : Mm} {k : Nat} (hk : kS k) (h : CxOk Γ l ⟨0, 0, 0, 0⟩ 4 ω LC cX4_settleBoast yX4_settleBoast.cls wsX4_settleBoast) (hR : RetI Γ ω LC cX4_settleBoast .int) : ∀ (b2 : Int32) (s0 : Int32) (T : Tm), Gq Γ ω LC (uM M0 k) 25 [(0, .ref (th ω k 0)), (2, .int b2)] [.int s0] T (m_X4_settleBoast_25 b2 s0 T) := by
  intro b2 s0 T
  unfold m_X4_settleBoast_25
  refine g_istore_n h rfl (lv' := [(3, .int s0), (0, .ref (th ω k 0)), (2, .int b2)]) dX4_settleBoast_25 (by decide) [0, 1, 2] rfl ?_
  refine g_aload_n h 1 dX4_settleBoast_26 rfl rfl ?_
  refine g_getR h (index := 15) (j := 1) (inS hk 0 (by decide)) (C := RX4) (T := TX4) (N := 13) rfl n_X4_settleBoast_4 (by decide) rfl (by decide +kernel) dX4_settleBoast_27 ?_
  refine g_iload_n h 0 dX4_settleBoast_30 rfl rfl ?_
  refine g_dup2 h dX4_settleBoast_31 rfl rfl ?_
  refine g_iald h (v := T 2 s0.toNatClampNeg) (uMr M0 k _ _ _) (inS hk 2 (by decide)) dX4_settleBoast_32 ?_
  refine g_ni (fun v1 => ?_)
  refine g_iconst h 1 dX4_settleBoast_33 (by decide) ?_
  refine g_iadd h dX4_settleBoast_34 ?_
  refine g_iast h (x' := wT T 2 s0.toNatClampNeg (v1 + 1)) (wM_uM M0 k _ _ _ _).symm (inS hk 2 (by decide)) dX4_settleBoast_35 ?_
  refine g_nm (fun T2 => ?_)
  refine g_aload_n h 1 dX4_settleBoast_36 rfl rfl ?_
  refine g_getR h (index := 33) (j := 7) (inS hk 0 (by decide)) (C := RX4) (T := TX4) (N := 13) rfl n_X4_settleBoast_4 (by decide) rfl (by decide +kernel) dX4_settleBoast_37 ?_
  refine g_iload_n h 2 dX4_settleBoast_40 rfl rfl ?_
  refine g_bipush h (-5) dX4_settleBoast_41 (by decide) ?_
  refine g_iast h (x' := wT T2 8 b2.toNatClampNeg (-5)) (wM_uM M0 k _ _ _ _).symm (inS hk 8 (by decide)) dX4_settleBoast_43 ?_
  refine g_nm (fun T3 => ?_)
  refine g_iload_n h 0 dX4_settleBoast_44 rfl rfl ?_
  exact g_iret hR rfl dX4_settleBoast_45
set_option maxHeartbeats 4000000 in
set_option maxRecDepth 100000 in
theorem c_X4_settleBoast (l : Launch) (ω : Wd) (k : Nat) (hk : kS k) (M0 : Mm) (T : Tm) (a1 : Int32) (a2 : Int32) {r : Int32} {T' : Tm} (hm : m_X4_settleBoast a1 a2 T = some (r, T')) : MI l yX4_settleBoast wsX4_settleBoast ⟨0, 0, 0, 0⟩ ω LC [.ref (th ω k 0), .int a1, .int a2] (uM M0 k T) r (uM M0 k T') := by
  refine met_i (cc := cX4_settleBoast) (maxL := 4) (ty := .int) (by decide +kernel) rfl (Nat.le_of_ble_eq_true rfl) LC_nd ?_
  intro Γ h hR ht
  suffices K : Gq Γ ω LC (uM M0 k) 0 [(0, .ref (th ω k 0)), (1, .int a1), (2, .int a2)] [] T (m_X4_settleBoast a1 a2 T) from K (r, T') hm ht
  unfold m_X4_settleBoast
  refine g_aload_n h 0 dX4_settleBoast_0 rfl rfl ?_
  refine g_getR h (index := 33) (j := 7) (inS hk 0 (by decide)) (C := RX4) (T := TX4) (N := 13) rfl n_X4_settleBoast_4 (by decide) rfl (by decide +kernel) dX4_settleBoast_1 ?_
  refine g_iload_n h 2 dX4_settleBoast_4 rfl rfl ?_
  refine g_iald h (v := T 8 a2.toNatClampNeg) (uMr M0 k _ _ _) (inS hk 8 (by decide)) dX4_settleBoast_5 ?_
  refine g_ni (fun v1 => ?_)
  refine g_aload_n h 0 dX4_settleBoast_6 rfl rfl ?_
  refine g_getR h (index := 30) (j := 6) (inS hk 0 (by decide)) (C := RX4) (T := TX4) (N := 13) rfl n_X4_settleBoast_4 (by decide) rfl (by decide +kernel) dX4_settleBoast_7 ?_
  refine g_iload_n h 2 dX4_settleBoast_10 rfl rfl ?_
  refine g_iald h (v := T 7 a2.toNatClampNeg) (uMr M0 k _ _ _) (inS hk 7 (by decide)) dX4_settleBoast_11 ?_
  refine g_ni (fun v2 => ?_)
  refine g_icmp_le h 24 dX4_settleBoast_12 (by decide) (fun hc3 => ?_) (fun hc3 => ?_)
  · skip
    refine g_iload_n h 1 dX4_settleBoast_24 rfl rfl ?_
    refine g_sub (lv' := [(0, .ref (th ω k 0)), (2, .int a2)]) [0, 2] rfl ?_
    exact b_X4_settleBoast_25 hk h hR _ _ _
  · skip
    refine g_aload_n h 0 dX4_settleBoast_15 rfl rfl ?_
    refine g_getR h (index := 18) (j := 2) (inS hk 0 (by decide)) (C := RX4) (T := TX4) (N := 13) rfl n_X4_settleBoast_4 (by decide) rfl (by decide +kernel) dX4_settleBoast_16 ?_
    refine g_iload_n h 2 dX4_settleBoast_19 rfl rfl ?_
    refine g_iald h (v := T 3 a2.toNatClampNeg) (uMr M0 k _ _ _) (inS hk 3 (by decide)) dX4_settleBoast_20 ?_
    refine g_ni (fun v4 => ?_)
    refine g_goto h (tgt := 25) dX4_settleBoast_21 (by decide) ?_
    refine g_sub (lv' := [(0, .ref (th ω k 0)), (2, .int a2)]) [0, 2] rfl ?_
    exact b_X4_settleBoast_25 hk h hR _ _ _
set_option maxHeartbeats 4000000 in
set_option maxRecDepth 100000 in
theorem c_X4_strikeError (l : Launch) (ω : Wd) (k : Nat) (hk : kS k) (M0 : Mm) (T : Tm) (a1 : Int32) (a2 : Int32) (a3 : Int32) {r : Int32} {T' : Tm} (hm : m_X4_strikeError a1 a2 a3 T = some (r, T')) : MI l yX4_strikeError wsX4_strikeError ⟨3, 0, 0, 66⟩ ω LC [.ref (th ω k 0), .int a1, .int a2, .int a3] (uM M0 k T) r (uM M0 k T') := by
  refine met_i (cc := cX4_strikeError) (maxL := 4) (ty := .int) (by decide +kernel) rfl (Nat.le_of_ble_eq_true rfl) LC_nd ?_
  intro Γ h hR ht
  suffices K : Gq Γ ω LC (uM M0 k) 0 [(0, .ref (th ω k 0)), (1, .int a1), (2, .int a2), (3, .int a3)] [] T (m_X4_strikeError a1 a2 a3 T) from K (r, T') hm ht
  unfold m_X4_strikeError
  refine g_aload_n h 0 dX4_strikeError_0 rfl rfl ?_
  refine g_iload_n h 1 dX4_strikeError_1 rfl rfl ?_
  refine g_iload_n h 2 dX4_strikeError_2 rfl rfl ?_
  refine g_iload_n h 3 dX4_strikeError_3 rfl rfl ?_
  refine g_iconst h 1 dX4_strikeError_4 (by decide) ?_
  refine g_bipush h 9 dX4_strikeError_5 (by decide) ?_
  refine g_callPN h (As := [.int a3, .int 1, .int 9]) (fun r t hG => c_X5_isWithin l ω M00 a3 1 9 hG) 3 rfl gX4_strikeError_X5_isWithin_n58 rfl (by decide +kernel) (by decide +kernel) (fun _ hz => hz) rfl rfl (by decide +kernel) (by decide) (st0 := _) rfl (Nat.le_of_ble_eq_true rfl) dX4_strikeError_7 (fun r1 => ?_)
  refine g_callI h (As := [.int a1, .int a2, .int r1]) (fun t => t) (fun r t hG => c_X4_pairError l ω k hk M0 _ a1 a2 r1 hG) (inS hk 0 (by decide)) (C := RX4) (T := TX4) (N := 13) rfl 3 rfl gX4_strikeError_X4_pairError rfl rfl rfl (by decide +kernel) (by decide) (st0 := _) rfl (Nat.le_of_ble_eq_true rfl) dX4_strikeError_10 (fun r2 T3 => ?_)
  exact g_iret hR rfl dX4_strikeError_13
theorem n_X4_threadAgain_4 : ∀ w ∈ wsX40, w ∈ wsX4_threadAgain := by decide +kernel
set_option maxHeartbeats 4000000 in
set_option maxRecDepth 100000 in
theorem c_X4_threadAgain (l : Launch) (ω : Wd) (k : Nat) (hk : kS k) (M0 : Mm) (T : Tm) (a1 : Int32) {r : Int32} {T' : Tm} (hm : m_X4_threadAgain a1 T = some (r, T')) : MI l yX4_threadAgain wsX4_threadAgain ⟨0, 0, 0, 0⟩ ω LC [.ref (th ω k 0), .int a1] (uM M0 k T) r (uM M0 k T') := by
  refine met_i (cc := cX4_threadAgain) (maxL := 3) (ty := .int) (by decide +kernel) rfl (Nat.le_of_ble_eq_true rfl) LC_nd ?_
  intro Γ h hR ht
  suffices K : Gq Γ ω LC (uM M0 k) 0 [(0, .ref (th ω k 0)), (1, .int a1)] [] T (m_X4_threadAgain a1 T) from K (r, T') hm ht
  unfold m_X4_threadAgain
  refine g_aload_n h 0 dX4_threadAgain_0 rfl rfl ?_
  refine g_getR h (index := 18) (j := 2) (inS hk 0 (by decide)) (C := RX4) (T := TX4) (N := 13) rfl n_X4_threadAgain_4 (by decide) rfl (by decide +kernel) dX4_threadAgain_1 ?_
  refine g_iload_n h 1 dX4_threadAgain_4 rfl rfl ?_
  refine g_iald h (v := T 3 a1.toNatClampNeg) (uMr M0 k _ _ _) (inS hk 3 (by decide)) dX4_threadAgain_5 ?_
  refine g_ni (fun v1 => ?_)
  refine g_istore_n h rfl (lv' := [(2, .int v1), (0, .ref (th ω k 0)), (1, .int a1)]) dX4_threadAgain_6 (by decide) [0, 1, 2] rfl ?_
  refine g_aload_n h 1 dX4_threadAgain_7 rfl rfl ?_
  refine g_getR h (index := 9) (j := 0) (inS hk 0 (by decide)) (C := RX4) (T := TX4) (N := 13) rfl n_X4_threadAgain_4 (by decide) rfl (by decide +kernel) dX4_threadAgain_8 ?_
  refine g_iload_n h 0 dX4_threadAgain_11 rfl rfl ?_
  refine g_dup2 h dX4_threadAgain_12 rfl rfl ?_
  refine g_iald h (v := T 1 v1.toNatClampNeg) (uMr M0 k _ _ _) (inS hk 1 (by decide)) dX4_threadAgain_13 ?_
  refine g_ni (fun v2 => ?_)
  refine g_iconst h 1 dX4_threadAgain_14 (by decide) ?_
  refine g_isub h dX4_threadAgain_15 ?_
  refine g_iast h (x' := wT T 1 v1.toNatClampNeg (v2 - 1)) (wM_uM M0 k _ _ _ _).symm (inS hk 1 (by decide)) dX4_threadAgain_16 ?_
  refine g_nm (fun T3 => ?_)
  refine g_aload_n h 1 dX4_threadAgain_17 rfl rfl ?_
  refine g_getR h (index := 27) (j := 5) (inS hk 0 (by decide)) (C := RX4) (T := TX4) (N := 13) rfl n_X4_threadAgain_4 (by decide) rfl (by decide +kernel) dX4_threadAgain_18 ?_
  refine g_iload_n h 2 dX4_threadAgain_21 rfl rfl ?_
  refine g_iconst h 0 dX4_threadAgain_22 (by decide) ?_
  refine g_iast h (x' := wT T3 6 a1.toNatClampNeg 0) (wM_uM M0 k _ _ _ _).symm (inS hk 6 (by decide)) dX4_threadAgain_23 ?_
  refine g_nm (fun T4 => ?_)
  refine g_aload_n h 1 dX4_threadAgain_24 rfl rfl ?_
  refine g_getR h (index := 36) (j := 8) (inS hk 0 (by decide)) (C := RX4) (T := TX4) (N := 13) rfl n_X4_threadAgain_4 (by decide) rfl (by decide +kernel) dX4_threadAgain_25 ?_
  refine g_iload_n h 2 dX4_threadAgain_28 rfl rfl ?_
  refine g_iconst h 0 dX4_threadAgain_29 (by decide) ?_
  refine g_iast h (x' := wT T4 9 a1.toNatClampNeg 0) (wM_uM M0 k _ _ _ _).symm (inS hk 9 (by decide)) dX4_threadAgain_30 ?_
  refine g_nm (fun T5 => ?_)
  refine g_aload_n h 1 dX4_threadAgain_31 rfl rfl ?_
  refine g_getR h (index := 9) (j := 0) (inS hk 0 (by decide)) (C := RX4) (T := TX4) (N := 13) rfl n_X4_threadAgain_4 (by decide) rfl (by decide +kernel) dX4_threadAgain_32 ?_
  refine g_iload_n h 0 dX4_threadAgain_35 rfl rfl ?_
  refine g_iald h (v := T5 1 v1.toNatClampNeg) (uMr M0 k _ _ _) (inS hk 1 (by decide)) dX4_threadAgain_36 ?_
  refine g_ni (fun v6 => ?_)
  exact g_iret hR rfl dX4_threadAgain_37
theorem n_X4_victoriesOf_4 : ∀ w ∈ wsX40, w ∈ wsX4_victoriesOf := by decide +kernel
set_option maxHeartbeats 4000000 in
set_option maxRecDepth 100000 in
theorem b_X4_victoriesOf_30 {Γ : Cx} {l : Launch} {ω : Wd} {M0 : Mm} {k : Nat} (hk : kS k) (h : CxOk Γ l ⟨1, 0, 0, 22⟩ 4 ω LC cX4_victoriesOf yX4_victoriesOf.cls wsX4_victoriesOf) (hR : RetI Γ ω LC cX4_victoriesOf .int) (κ4 : Int32 → Int32 → Int32 → Tm → Option (Int32 × Tm)) (hκ4 : ∀ (b1 : Int32) (b2 : Int32) (b3 : Int32) (T : Tm), Gq Γ ω LC (uM M0 k) 4 [(0, .ref (th ω k 0)), (1, .int b1), (2, .int b2), (3, .int b3)] [] T (κ4 b1 b2 b3 T)) : ∀ (b1 : Int32) (b2 : Int32) (b3 : Int32) (T : Tm), Gq Γ ω LC (uM M0 k) 30 [(0, .ref (th ω k 0)), (1, .int b1), (2, .int b2), (3, .int b3)] [] T (m_X4_victoriesOf_30 κ4 b1 b2 b3 T) := by
  intro b1 b2 b3 T
  unfold m_X4_victoriesOf_30
  refine g_iinc h (b3 + 1) (lv' := [(3, .int (b3 + 1)), (0, .ref (th ω k 0)), (1, .int b1), (2, .int b2)]) dX4_victoriesOf_30 3 rfl (congrArg (fun z => b3 + z) (by decide)) (by decide) [0, 1, 2, 3] rfl ?_
  refine g_goto h (tgt := 4) dX4_victoriesOf_33 (by decide) ?_
  refine g_sub (lv' := [(0, .ref (th ω k 0)), (1, .int b1), (2, .int b2), (3, .int (b3 + 1))]) [1, 2, 3, 0] rfl ?_
  exact hκ4 _ _ _ _
set_option maxHeartbeats 4000000 in
set_option maxRecDepth 100000 in
theorem b_X4_victoriesOf_4 {Γ : Cx} {l : Launch} {ω : Wd} {M0 : Mm} {k : Nat} (hk : kS k) (h : CxOk Γ l ⟨1, 0, 0, 22⟩ 4 ω LC cX4_victoriesOf yX4_victoriesOf.cls wsX4_victoriesOf) (hR : RetI Γ ω LC cX4_victoriesOf .int) : ∀ (n : Nat) (b1 : Int32) (b2 : Int32) (b3 : Int32) (T : Tm), Gq Γ ω LC (uM M0 k) 4 [(0, .ref (th ω k 0)), (1, .int b1), (2, .int b2), (3, .int b3)] [] T (m_X4_victoriesOf_4 n b1 b2 b3 T) := by
  intro n
  induction n with
  | zero =>
    intro b1 b2 b3 T
    rw [m_X4_victoriesOf_4.eq_1]
    exact g_none
  | succ n ih =>
    intro b1 b2 b3 T
    rw [m_X4_victoriesOf_4.eq_2]
    refine g_iload_n h 3 dX4_victoriesOf_4 rfl rfl ?_
    refine g_aload_n h 0 dX4_victoriesOf_5 rfl rfl ?_
    refine g_getI h (v := T 0 10) (uMr M0 k _ _ _) (index := 42) (j := 10) (inS hk 0 (by decide)) (C := RX4) (T := TX4) (N := 13) rfl n_X4_victoriesOf_4 (by decide) rfl (by decide +kernel) dX4_victoriesOf_6 ?_
    refine g_ni (fun v1 => ?_)
    refine g_icmp_ge h 36 dX4_victoriesOf_9 (by decide) (fun hc2 => ?_) (fun hc2 => ?_)
    · skip
      refine g_iload_n h 2 dX4_victoriesOf_36 rfl rfl ?_
      exact g_iret hR rfl dX4_victoriesOf_37
    · skip
      refine g_aload_n h 0 dX4_victoriesOf_12 rfl rfl ?_
      refine g_iload_n h 3 dX4_victoriesOf_13 rfl rfl ?_
      refine g_iload_n h 1 dX4_victoriesOf_14 rfl rfl ?_
      refine g_callI h (As := [.int b3, .int b1]) (fun t => t) (fun r t hG => c_X4_isOf l ω k hk M0 _ b3 b1 hG) (inS hk 0 (by decide)) (C := RX4) (T := TX4) (N := 13) rfl 2 rfl gX4_victoriesOf_X4_isOf rfl rfl rfl (by decide +kernel) (by decide) (st0 := _) rfl (Nat.le_of_ble_eq_true rfl) dX4_victoriesOf_15 (fun r3 T4 => ?_)
      refine g_if_eq h 30 dX4_victoriesOf_18 (by decide) (fun hc5 => ?_) (fun hc5 => ?_)
      · skip
        exact b_X4_victoriesOf_30 hk h hR _ ih _ _ _ _
      · skip
        refine g_iload_n h 2 dX4_victoriesOf_21 rfl rfl ?_
        refine g_aload_n h 0 dX4_victoriesOf_22 rfl rfl ?_
        refine g_getR h (index := 30) (j := 6) (inS hk 0 (by decide)) (C := RX4) (T := TX4) (N := 13) rfl n_X4_victoriesOf_4 (by decide) rfl (by decide +kernel) dX4_victoriesOf_23 ?_
        refine g_iload_n h 3 dX4_victoriesOf_26 rfl rfl ?_
        refine g_iald h (v := T4 7 b3.toNatClampNeg) (uMr M0 k _ _ _) (inS hk 7 (by decide)) dX4_victoriesOf_27 ?_
        refine g_ni (fun v6 => ?_)
        refine g_iadd h dX4_victoriesOf_28 ?_
        refine g_istore_n h rfl (lv' := [(2, .int (b2 + v6)), (0, .ref (th ω k 0)), (1, .int b1), (3, .int b3)]) dX4_victoriesOf_29 (by decide) [0, 1, 2, 3] rfl ?_
        refine g_sub (lv' := [(0, .ref (th ω k 0)), (1, .int b1), (2, .int (b2 + v6)), (3, .int b3)]) [1, 2, 0, 3] rfl ?_
        exact b_X4_victoriesOf_30 hk h hR _ ih _ _ _ _
set_option maxHeartbeats 4000000 in
set_option maxRecDepth 100000 in
theorem c_X4_victoriesOf (l : Launch) (ω : Wd) (k : Nat) (hk : kS k) (M0 : Mm) (T : Tm) (a1 : Int32) {r : Int32} {T' : Tm} (hm : m_X4_victoriesOf a1 T = some (r, T')) : MI l yX4_victoriesOf wsX4_victoriesOf ⟨1, 0, 0, 22⟩ ω LC [.ref (th ω k 0), .int a1] (uM M0 k T) r (uM M0 k T') := by
  refine met_i (cc := cX4_victoriesOf) (maxL := 4) (ty := .int) (by decide +kernel) rfl (Nat.le_of_ble_eq_true rfl) LC_nd ?_
  intro Γ h hR ht
  suffices K : Gq Γ ω LC (uM M0 k) 0 [(0, .ref (th ω k 0)), (1, .int a1)] [] T (m_X4_victoriesOf a1 T) from K (r, T') hm ht
  unfold m_X4_victoriesOf
  refine g_iconst h 0 dX4_victoriesOf_0 (by decide) ?_
  refine g_istore_n h rfl (lv' := [(2, .int 0), (0, .ref (th ω k 0)), (1, .int a1)]) dX4_victoriesOf_1 (by decide) [0, 1, 2] rfl ?_
  refine g_iconst h 0 dX4_victoriesOf_2 (by decide) ?_
  refine g_istore_n h rfl (lv' := [(3, .int 0), (2, .int 0), (0, .ref (th ω k 0)), (1, .int a1)]) dX4_victoriesOf_3 (by decide) [0, 1, 2, 3] rfl ?_
  refine g_sub (lv' := [(0, .ref (th ω k 0)), (1, .int a1), (2, .int 0), (3, .int 0)]) [2, 3, 1, 0] rfl ?_
  exact b_X4_victoriesOf_4 hk h hR fu _ _ _ _
theorem n_X5_append_3 : ∀ w ∈ wsX30, w ∈ wsX5_append := by decide +kernel
theorem n_X5_append_5 : ∀ w ∈ wsX50, w ∈ wsX5_append := by decide +kernel
set_option maxHeartbeats 4000000 in
set_option maxRecDepth 100000 in
theorem c_X5_append (l : Launch) (ω : Wd)  (M : Mm) (a1 : Int32) {r : Int32} {M' : Mm} (hm : m_X5_append a1 M = some (r, M')) : MI l yX5_append wsX5_append ⟨1, 0, 0, 22⟩ ω LC [.ref (th ω 0 0), .int a1] M r M' := by
  refine met_i (cc := cX5_append) (maxL := 2) (ty := .int) (by decide +kernel) rfl (Nat.le_of_ble_eq_true rfl) LC_nd ?_
  intro Γ h hR ht
  suffices K : Gq Γ ω LC eI 0 [(0, .ref (th ω 0 0)), (1, .int a1)] [] M (m_X5_append a1 M) from K (r, M') hm ht
  unfold m_X5_append
  refine g_iload_n h 1 dX5_append_0 rfl rfl ?_
  refine g_bipush h 32 dX5_append_1 (by decide) ?_
  refine g_bipush h 126 dX5_append_3 (by decide) ?_
  refine g_callP h (As := [.int a1, .int 32, .int 126]) (fun r t hG => c_X5_isWithin l ω M00 a1 32 126 hG) 3 rfl gX5_append_X5_isWithin rfl rfl rfl (by decide +kernel) (by decide) (st0 := _) rfl (Nat.le_of_ble_eq_true rfl) dX5_append_5 (fun r1 => ?_)
  refine g_if_ne h 14 dX5_append_8 (by decide) (fun hc2 => ?_) (fun hc2 => ?_)
  · skip
    refine g_bipush h (-2) dX5_append_11 (by decide) ?_
    exact g_iret hR rfl dX5_append_13
  · skip
    refine g_aload_n h 0 dX5_append_14 rfl rfl ?_
    refine g_getR h (index := 32) (j := 4) iC_0_0 (C := RX5) (T := TX5) (N := 8) rfl n_X5_append_5 (by decide) rfl (by decide +kernel) dX5_append_15 ?_
    refine g_getI h (v := M 9 0 1) rfl (index := 138) (j := 1) iC_9_0 (C := RX3) (T := TX3) (N := 7) rfl n_X5_append_3 (by decide) rfl (by decide +kernel) dX5_append_18 ?_
    refine g_ni (fun v3 => ?_)
    refine g_bipush h 60 dX5_append_21 (by decide) ?_
    refine g_icmp_lt h 29 dX5_append_23 (by decide) (fun hc4 => ?_) (fun hc4 => ?_)
    · skip
      refine g_aload_n h 0 dX5_append_29 rfl rfl ?_
      refine g_getR h (index := 32) (j := 4) iC_0_0 (C := RX5) (T := TX5) (N := 8) rfl n_X5_append_5 (by decide) rfl (by decide +kernel) dX5_append_30 ?_
      refine g_getR h (index := 139) (j := 0) iC_9_0 (C := RX3) (T := TX3) (N := 7) rfl n_X5_append_3 (by decide) rfl (by decide +kernel) dX5_append_33 ?_
      refine g_aload_n h 0 dX5_append_36 rfl rfl ?_
      refine g_getR h (index := 32) (j := 4) iC_0_0 (C := RX5) (T := TX5) (N := 8) rfl n_X5_append_5 (by decide) rfl (by decide +kernel) dX5_append_37 ?_
      refine g_getI h (v := M 9 0 1) rfl (index := 138) (j := 1) iC_9_0 (C := RX3) (T := TX3) (N := 7) rfl n_X5_append_3 (by decide) rfl (by decide +kernel) dX5_append_40 ?_
      refine g_ni (fun v5 => ?_)
      refine g_iload_n h 1 dX5_append_43 rfl rfl ?_
      refine g_i2c h dX5_append_44 rfl ?_
      refine g_cast h (x' := wM M 9 1 v5.toNatClampNeg (vp_nar .char ((a1.toUInt32 % 65536).toInt32))) rfl iC_9_1 dX5_append_45 ?_
      refine g_nm (fun M6 => ?_)
      refine g_aload_n h 0 dX5_append_46 rfl rfl ?_
      refine g_getR h (index := 32) (j := 4) iC_0_0 (C := RX5) (T := TX5) (N := 8) rfl n_X5_append_5 (by decide) rfl (by decide +kernel) dX5_append_47 ?_
      refine g_dup h dX5_append_50 rfl ?_
      refine g_getI h (v := M6 9 0 1) rfl (index := 138) (j := 1) iC_9_0 (C := RX3) (T := TX3) (N := 7) rfl n_X5_append_3 (by decide) rfl (by decide +kernel) dX5_append_51 ?_
      refine g_ni (fun v7 => ?_)
      refine g_iconst h 1 dX5_append_54 (by decide) ?_
      refine g_iadd h dX5_append_55 ?_
      refine g_putI h (x' := wM M6 9 0 1 (v7 + 1)) rfl (index := 138) (j := 1) iC_9_0 (C := RX3) (T := TX3) (N := 7) rfl n_X5_append_3 tyX3_ok nmX3 (by decide) rfl (by decide +kernel) rfl (ty := .int) (by decide +kernel) rfl rfl dX5_append_56 ?_
      refine g_nm (fun M8 => ?_)
      refine g_aload_n h 0 dX5_append_59 rfl rfl ?_
      refine g_getR h (index := 32) (j := 4) iC_0_0 (C := RX5) (T := TX5) (N := 8) rfl n_X5_append_5 (by decide) rfl (by decide +kernel) dX5_append_60 ?_
      refine g_getI h (v := M8 9 0 1) rfl (index := 138) (j := 1) iC_9_0 (C := RX3) (T := TX3) (N := 7) rfl n_X5_append_3 (by decide) rfl (by decide +kernel) dX5_append_63 ?_
      refine g_ni (fun v9 => ?_)
      exact g_iret hR rfl dX5_append_66
    · skip
      refine g_bipush h (-3) dX5_append_26 (by decide) ?_
      exact g_iret hR rfl dX5_append_28
theorem n_X5_boast_4 : ∀ w ∈ wsX40, w ∈ wsX5_boast := by decide +kernel
theorem n_X5_boast_5 : ∀ w ∈ wsX50, w ∈ wsX5_boast := by decide +kernel
set_option maxHeartbeats 4000000 in
set_option maxRecDepth 100000 in
theorem c_X5_boast (l : Launch) (ω : Wd)  (M : Mm) (a1 : Int32) (a2 : Int32) {r : Int32} {M' : Mm} (hm : m_X5_boast a1 a2 M = some (r, M')) : MI l yX5_boast wsX5_boast ⟨3, 0, 0, 82⟩ ω LC [.ref (th ω 0 0), .int a1, .int a2] M r M' := by
  refine met_i (cc := cX5_boast) (maxL := 4) (ty := .int) (by decide +kernel) rfl (Nat.le_of_ble_eq_true rfl) LC_nd ?_
  intro Γ h hR ht
  suffices K : Gq Γ ω LC eI 0 [(0, .ref (th ω 0 0)), (1, .int a1), (2, .int a2)] [] M (m_X5_boast a1 a2 M) from K (r, M') hm ht
  unfold m_X5_boast
  refine g_aload_n h 0 dX5_boast_0 rfl rfl ?_
  refine g_getR h (index := 10) (j := 0) iC_0_0 (C := RX5) (T := TX5) (N := 8) rfl n_X5_boast_5 (by decide) rfl (by decide +kernel) dX5_boast_1 ?_
  refine g_iload_n h 1 dX5_boast_4 rfl rfl ?_
  refine g_callI h (As := [.int a1]) (fun t => uM M 1 t) (fun r t hG => MI_self (c_X4_hasConker l ω 1 kS1 M _ a1 hG)) (inS kS1 0 (by decide)) (C := RX4) (T := TX4) (N := 13) rfl 1 rfl gX5_boast_X4_hasConker rfl rfl rfl (by decide +kernel) (by decide) (st0 := _) rfl (Nat.le_of_ble_eq_true rfl) dX5_boast_5 (fun r1 M2 => ?_)
  refine g_nm (fun M3 => ?_)
  refine g_if_ne h 13 dX5_boast_8 (by decide) (fun hc4 => ?_) (fun hc4 => ?_)
  · skip
    refine g_iconst h (-1) dX5_boast_11 (by decide) ?_
    exact g_iret hR rfl dX5_boast_12
  · skip
    refine g_iload_n h 2 dX5_boast_13 rfl rfl ?_
    refine g_iconst h 0 dX5_boast_14 (by decide) ?_
    refine g_bipush h 99 dX5_boast_15 (by decide) ?_
    refine g_callP h (As := [.int a2, .int 0, .int 99]) (fun r t hG => c_X5_isWithin l ω M00 a2 0 99 hG) 3 rfl gX5_boast_X5_isWithin rfl rfl rfl (by decide +kernel) (by decide) (st0 := _) rfl (Nat.le_of_ble_eq_true rfl) dX5_boast_17 (fun r5 => ?_)
    refine g_if_ne h 26 dX5_boast_20 (by decide) (fun hc6 => ?_) (fun hc6 => ?_)
    · skip
      refine g_bipush h (-2) dX5_boast_23 (by decide) ?_
      exact g_iret hR rfl dX5_boast_25
    · skip
      refine g_aload_n h 0 dX5_boast_26 rfl rfl ?_
      refine g_getR h (index := 10) (j := 0) iC_0_0 (C := RX5) (T := TX5) (N := 8) rfl n_X5_boast_5 (by decide) rfl (by decide +kernel) dX5_boast_27 ?_
      refine g_getR h (index := 101) (j := 8) (inS kS1 0 (by decide)) (C := RX4) (T := TX4) (N := 13) rfl n_X5_boast_4 (by decide) rfl (by decide +kernel) dX5_boast_30 ?_
      refine g_iload_n h 1 dX5_boast_33 rfl rfl ?_
      refine g_iald h (v := M3 1 9 a1.toNatClampNeg) rfl (inS kS1 9 (by decide)) dX5_boast_34 ?_
      refine g_ni (fun v7 => ?_)
      refine g_iconst h 2 dX5_boast_35 (by decide) ?_
      refine g_icmp_ne h 42 dX5_boast_36 (by decide) (fun hc8 => ?_) (fun hc8 => ?_)
      · skip
        refine g_bipush h (-4) dX5_boast_39 (by decide) ?_
        exact g_iret hR rfl dX5_boast_41
      · skip
        refine g_aload_n h 0 dX5_boast_42 rfl rfl ?_
        refine g_getR h (index := 25) (j := 3) iC_0_0 (C := RX5) (T := TX5) (N := 8) rfl n_X5_boast_5 (by decide) rfl (by decide +kernel) dX5_boast_43 ?_
        refine g_aload_n h 0 dX5_boast_46 rfl rfl ?_
        refine g_getR h (index := 10) (j := 0) iC_0_0 (C := RX5) (T := TX5) (N := 8) rfl n_X5_boast_5 (by decide) rfl (by decide +kernel) dX5_boast_47 ?_
        refine g_callV h (As := [.ref (th ω 1 0)]) (fun t => t) (fun r t hG => c_X1_keep l ω _ hG) iC_12_0 (C := RX1) (T := TX1) (N := 2) rfl 1 rfl gX5_boast_X1_keep rfl rfl rfl (by decide +kernel) (by decide) (st0 := _) rfl (Nat.le_of_ble_eq_true rfl) dX5_boast_50 (fun r9 M10 => ?_)
        refine g_aload_n h 0 dX5_boast_53 rfl rfl ?_
        refine g_getR h (index := 10) (j := 0) iC_0_0 (C := RX5) (T := TX5) (N := 8) rfl n_X5_boast_5 (by decide) rfl (by decide +kernel) dX5_boast_54 ?_
        refine g_getR h (index := 104) (j := 7) (inS kS1 0 (by decide)) (C := RX4) (T := TX4) (N := 13) rfl n_X5_boast_4 (by decide) rfl (by decide +kernel) dX5_boast_57 ?_
        refine g_iload_n h 1 dX5_boast_60 rfl rfl ?_
        refine g_iald h (v := M10 1 8 a1.toNatClampNeg) rfl (inS kS1 8 (by decide)) dX5_boast_61 ?_
        refine g_ni (fun v11 => ?_)
        refine g_istore_n h rfl (lv' := [(3, .int v11), (0, .ref (th ω 0 0)), (1, .int a1), (2, .int a2)]) dX5_boast_62 (by decide) [0, 1, 2, 3] rfl ?_
        refine g_aload_n h 1 dX5_boast_63 rfl rfl ?_
        refine g_getR h (index := 10) (j := 0) iC_0_0 (C := RX5) (T := TX5) (N := 8) rfl n_X5_boast_5 (by decide) rfl (by decide +kernel) dX5_boast_64 ?_
        refine g_getR h (index := 104) (j := 7) (inS kS1 0 (by decide)) (C := RX4) (T := TX4) (N := 13) rfl n_X5_boast_4 (by decide) rfl (by decide +kernel) dX5_boast_67 ?_
        refine g_iload_n h 2 dX5_boast_70 rfl rfl ?_
        refine g_iload_n h 3 dX5_boast_71 rfl rfl ?_
        refine g_iast h (x' := wM M10 1 8 a1.toNatClampNeg a2) rfl (inS kS1 8 (by decide)) dX5_boast_72 ?_
        refine g_nm (fun M12 => ?_)
        refine g_iload_n h 0 dX5_boast_73 rfl rfl ?_
        exact g_iret hR rfl dX5_boast_74
theorem n_X5_bout_5 : ∀ w ∈ wsX50, w ∈ wsX5_bout := by decide +kernel
set_option maxHeartbeats 4000000 in
set_option maxRecDepth 100000 in
theorem c_X5_bout (l : Launch) (ω : Wd)  (M : Mm) (a1 : Int32) (a2 : Int32) (a3 : Int32) {r : Int32} {M' : Mm} (hm : m_X5_bout a1 a2 a3 M = some (r, M')) : MI l yX5_bout wsX5_bout ⟨5, 0, 0, 120⟩ ω LC [.ref (th ω 0 0), .int a1, .int a2, .int a3] M r M' := by
  refine met_i (cc := cX5_bout) (maxL := 5) (ty := .int) (by decide +kernel) rfl (Nat.le_of_ble_eq_true rfl) LC_nd ?_
  intro Γ h hR ht
  suffices K : Gq Γ ω LC eI 0 [(0, .ref (th ω 0 0)), (1, .int a1), (2, .int a2), (3, .int a3)] [] M (m_X5_bout a1 a2 a3 M) from K (r, M') hm ht
  unfold m_X5_bout
  refine g_aload_n h 0 dX5_bout_0 rfl rfl ?_
  refine g_getR h (index := 10) (j := 0) iC_0_0 (C := RX5) (T := TX5) (N := 8) rfl n_X5_bout_5 (by decide) rfl (by decide +kernel) dX5_bout_1 ?_
  refine g_iload_n h 1 dX5_bout_4 rfl rfl ?_
  refine g_iload_n h 2 dX5_bout_5 rfl rfl ?_
  refine g_iload_n h 3 dX5_bout_6 rfl rfl ?_
  refine g_callI h (As := [.int a1, .int a2, .int a3]) (fun t => uM M 1 t) (fun r t hG => MI_self (c_X4_boutError l ω 1 kS1 M _ a1 a2 a3 hG)) (inS kS1 0 (by decide)) (C := RX4) (T := TX4) (N := 13) rfl 3 rfl gX5_bout_X4_boutError rfl rfl rfl (by decide +kernel) (by decide) (st0 := _) rfl (Nat.le_of_ble_eq_true rfl) dX5_bout_7 (fun r1 M2 => ?_)
  refine g_nm (fun M3 => ?_)
  refine g_istore h (lv' := [(4, .int r1), (0, .ref (th ω 0 0)), (1, .int a1), (2, .int a2), (3, .int a3)]) dX5_bout_10 (by decide) [0, 1, 2, 3, 4] rfl ?_
  refine g_iload h 0 dX5_bout_12 rfl ?_
  refine g_if_eq h 20 dX5_bout_14 (by decide) (fun hc4 => ?_) (fun hc4 => ?_)
  · skip
    refine g_aload_n h 1 dX5_bout_20 rfl rfl ?_
    refine g_getR h (index := 25) (j := 3) iC_0_0 (C := RX5) (T := TX5) (N := 8) rfl n_X5_bout_5 (by decide) rfl (by decide +kernel) dX5_bout_21 ?_
    refine g_aload_n h 1 dX5_bout_24 rfl rfl ?_
    refine g_getR h (index := 10) (j := 0) iC_0_0 (C := RX5) (T := TX5) (N := 8) rfl n_X5_bout_5 (by decide) rfl (by decide +kernel) dX5_bout_25 ?_
    refine g_callV h (As := [.ref (th ω 1 0)]) (fun t => t) (fun r t hG => c_X1_keep l ω _ hG) iC_12_0 (C := RX1) (T := TX1) (N := 2) rfl 1 rfl gX5_bout_X1_keep rfl rfl rfl (by decide +kernel) (by decide) (st0 := _) rfl (Nat.le_of_ble_eq_true rfl) dX5_bout_28 (fun r5 M6 => ?_)
    refine g_aload_n h 1 dX5_bout_31 rfl rfl ?_
    refine g_getR h (index := 39) (j := 5) iC_0_0 (C := RX5) (T := TX5) (N := 8) rfl n_X5_bout_5 (by decide) rfl (by decide +kernel) dX5_bout_32 ?_
    refine g_iload_n h 4 dX5_bout_35 rfl rfl ?_
    refine g_callV h (As := [.int a3]) (fun t => uM M6 10 t) (fun r t hG => MV_self (c_X0_begin l ω M6 _ a3 hG)) iC_10_0 (C := RX0) (T := TX0) (N := 1) rfl 1 rfl gX5_bout_X0_begin rfl rfl rfl (by decide +kernel) (by decide) (st0 := _) rfl (Nat.le_of_ble_eq_true rfl) dX5_bout_36 (fun r7 M8 => ?_)
    refine g_nm (fun M9 => ?_)
    refine g_aload_n h 1 dX5_bout_39 rfl rfl ?_
    refine g_getR h (index := 10) (j := 0) iC_0_0 (C := RX5) (T := TX5) (N := 8) rfl n_X5_bout_5 (by decide) rfl (by decide +kernel) dX5_bout_40 ?_
    refine g_iload_n h 2 dX5_bout_43 rfl rfl ?_
    refine g_iload_n h 3 dX5_bout_44 rfl rfl ?_
    refine g_aload_n h 1 dX5_bout_45 rfl rfl ?_
    refine g_getR h (index := 39) (j := 5) iC_0_0 (C := RX5) (T := TX5) (N := 8) rfl n_X5_bout_5 (by decide) rfl (by decide +kernel) dX5_bout_46 ?_
    refine g_callI h (As := [.int a1, .int a2, .ref (th ω 10 0)]) (fun t => t) (fun r t hG => c_X4_fight l ω 1 kS1 _ a1 a2 hG) (inS kS1 0 (by decide)) (C := RX4) (T := TX4) (N := 13) rfl 3 rfl gX5_bout_X4_fight rfl rfl rfl (by decide +kernel) (by decide) (st0 := _) rfl (Nat.le_of_ble_eq_true rfl) dX5_bout_49 (fun r10 M11 => ?_)
    exact g_iret hR rfl dX5_bout_52
  · skip
    refine g_iload h 0 dX5_bout_17 rfl ?_
    exact g_iret hR rfl dX5_bout_19
theorem n_X5_carryOutOrder_3 : ∀ w ∈ wsX30, w ∈ wsX5_carryOutOrder := by decide +kernel
theorem n_X5_carryOutOrder_5 : ∀ w ∈ wsX50, w ∈ wsX5_carryOutOrder := by decide +kernel
set_option maxHeartbeats 4000000 in
set_option maxRecDepth 100000 in
theorem c_X5_carryOutOrder (l : Launch) (ω : Wd)  (M : Mm) {r : Int32} {M' : Mm} (hm : m_X5_carryOutOrder M = some (r, M')) : MI l yX5_carryOutOrder wsX5_carryOutOrder ⟨4, 0, 0, 93⟩ ω LC [.ref (th ω 0 0)] M r M' := by
  refine met_i (cc := cX5_carryOutOrder) (maxL := 2) (ty := .int) (by decide +kernel) rfl (Nat.le_of_ble_eq_true rfl) LC_nd ?_
  intro Γ h hR ht
  suffices K : Gq Γ ω LC eI 0 [(0, .ref (th ω 0 0))] [] M (m_X5_carryOutOrder M) from K (r, M') hm ht
  unfold m_X5_carryOutOrder
  refine g_aload_n h 0 dX5_carryOutOrder_0 rfl rfl ?_
  refine g_getR h (index := 32) (j := 4) iC_0_0 (C := RX5) (T := TX5) (N := 8) rfl n_X5_carryOutOrder_5 (by decide) rfl (by decide +kernel) dX5_carryOutOrder_1 ?_
  refine g_getI h (v := M 9 0 3) rfl (index := 224) (j := 3) iC_9_0 (C := RX3) (T := TX3) (N := 7) rfl n_X5_carryOutOrder_3 (by decide) rfl (by decide +kernel) dX5_carryOutOrder_4 ?_
  refine g_ni (fun v1 => ?_)
  refine g_if (fun hc2 => ?_) (fun hc2 => ?_)
  · refine g_lsw h (off := 63) 70 dX5_carryOutOrder_7 (by decide) (by rw [hc2]; rfl) (by decide) ?_
    refine g_aload_n h 0 dX5_carryOutOrder_70 rfl rfl ?_
    refine g_getR h (index := 10) (j := 0) iC_0_0 (C := RX5) (T := TX5) (N := 8) rfl n_X5_carryOutOrder_5 (by decide) rfl (by decide +kernel) dX5_carryOutOrder_71 ?_
    refine g_aload_n h 0 dX5_carryOutOrder_74 rfl rfl ?_
    refine g_getR h (index := 32) (j := 4) iC_0_0 (C := RX5) (T := TX5) (N := 8) rfl n_X5_carryOutOrder_5 (by decide) rfl (by decide +kernel) dX5_carryOutOrder_75 ?_
    refine g_getI h (v := M 9 0 4) rfl (index := 228) (j := 4) iC_9_0 (C := RX3) (T := TX3) (N := 7) rfl n_X5_carryOutOrder_3 (by decide) rfl (by decide +kernel) dX5_carryOutOrder_78 ?_
    refine g_ni (fun v3 => ?_)
    refine g_callI h (As := [.int v3]) (fun t => uM M 1 t) (fun r t hG => MI_self (c_X4_fallenError l ω 1 kS1 M _ v3 hG)) (inS kS1 0 (by decide)) (C := RX4) (T := TX4) (N := 13) rfl 1 rfl gX5_carryOutOrder_X4_fallenError rfl rfl rfl (by decide +kernel) (by decide) (st0 := _) rfl (Nat.le_of_ble_eq_true rfl) dX5_carryOutOrder_81 (fun r4 M5 => ?_)
    refine g_nm (fun M6 => ?_)
    refine g_istore_n h rfl (lv' := [(1, .int r4), (0, .ref (th ω 0 0))]) dX5_carryOutOrder_84 (by decide) [0, 1] rfl ?_
    refine g_iload_n h 0 dX5_carryOutOrder_85 rfl rfl ?_
    refine g_if_eq h 93 dX5_carryOutOrder_86 (by decide) (fun hc7 => ?_) (fun hc7 => ?_)
    · skip
      refine g_aload_n h 1 dX5_carryOutOrder_93 rfl rfl ?_
      refine g_getR h (index := 10) (j := 0) iC_0_0 (C := RX5) (T := TX5) (N := 8) rfl n_X5_carryOutOrder_5 (by decide) rfl (by decide +kernel) dX5_carryOutOrder_94 ?_
      refine g_aload_n h 1 dX5_carryOutOrder_97 rfl rfl ?_
      refine g_getR h (index := 32) (j := 4) iC_0_0 (C := RX5) (T := TX5) (N := 8) rfl n_X5_carryOutOrder_5 (by decide) rfl (by decide +kernel) dX5_carryOutOrder_98 ?_
      refine g_getI h (v := M6 9 0 4) rfl (index := 228) (j := 4) iC_9_0 (C := RX3) (T := TX3) (N := 7) rfl n_X5_carryOutOrder_3 (by decide) rfl (by decide +kernel) dX5_carryOutOrder_101 ?_
      refine g_ni (fun v8 => ?_)
      refine g_callI h (As := [.int v8]) (fun t => uM M6 1 t) (fun r t hG => MI_self (c_X4_crush l ω 1 kS1 M6 _ v8 hG)) (inS kS1 0 (by decide)) (C := RX4) (T := TX4) (N := 13) rfl 1 rfl gX5_carryOutOrder_X4_crush rfl rfl rfl (by decide +kernel) (by decide) (st0 := _) rfl (Nat.le_of_ble_eq_true rfl) dX5_carryOutOrder_104 (fun r9 M10 => ?_)
      refine g_nm (fun M11 => ?_)
      exact g_iret hR rfl dX5_carryOutOrder_107
    · skip
      refine g_iload_n h 0 dX5_carryOutOrder_89 rfl rfl ?_
      refine g_goto h (tgt := 107) dX5_carryOutOrder_90 (by decide) ?_
      exact g_iret hR rfl dX5_carryOutOrder_107
  refine g_if (fun hc12 => ?_) (fun hc12 => ?_)
  · refine g_lsw h (off := 25) 32 dX5_carryOutOrder_7 (by decide) (by rw [hc12]; rfl) (by decide) ?_
    refine g_aload_n h 0 dX5_carryOutOrder_32 rfl rfl ?_
    refine g_getR h (index := 10) (j := 0) iC_0_0 (C := RX5) (T := TX5) (N := 8) rfl n_X5_carryOutOrder_5 (by decide) rfl (by decide +kernel) dX5_carryOutOrder_33 ?_
    refine g_aload_n h 0 dX5_carryOutOrder_36 rfl rfl ?_
    refine g_getR h (index := 32) (j := 4) iC_0_0 (C := RX5) (T := TX5) (N := 8) rfl n_X5_carryOutOrder_5 (by decide) rfl (by decide +kernel) dX5_carryOutOrder_37 ?_
    refine g_getI h (v := M 9 0 4) rfl (index := 228) (j := 4) iC_9_0 (C := RX3) (T := TX3) (N := 7) rfl n_X5_carryOutOrder_3 (by decide) rfl (by decide +kernel) dX5_carryOutOrder_40 ?_
    refine g_ni (fun v13 => ?_)
    refine g_callI h (As := [.int v13]) (fun t => uM M 1 t) (fun r t hG => MI_self (c_X4_mendError l ω 1 kS1 M _ v13 hG)) (inS kS1 0 (by decide)) (C := RX4) (T := TX4) (N := 13) rfl 1 rfl gX5_carryOutOrder_X4_mendError rfl rfl rfl (by decide +kernel) (by decide) (st0 := _) rfl (Nat.le_of_ble_eq_true rfl) dX5_carryOutOrder_43 (fun r14 M15 => ?_)
    refine g_nm (fun M16 => ?_)
    refine g_istore_n h rfl (lv' := [(1, .int r14), (0, .ref (th ω 0 0))]) dX5_carryOutOrder_46 (by decide) [0, 1] rfl ?_
    refine g_iload_n h 0 dX5_carryOutOrder_47 rfl rfl ?_
    refine g_if_eq h 55 dX5_carryOutOrder_48 (by decide) (fun hc17 => ?_) (fun hc17 => ?_)
    · skip
      refine g_aload_n h 1 dX5_carryOutOrder_55 rfl rfl ?_
      refine g_getR h (index := 10) (j := 0) iC_0_0 (C := RX5) (T := TX5) (N := 8) rfl n_X5_carryOutOrder_5 (by decide) rfl (by decide +kernel) dX5_carryOutOrder_56 ?_
      refine g_aload_n h 1 dX5_carryOutOrder_59 rfl rfl ?_
      refine g_getR h (index := 32) (j := 4) iC_0_0 (C := RX5) (T := TX5) (N := 8) rfl n_X5_carryOutOrder_5 (by decide) rfl (by decide +kernel) dX5_carryOutOrder_60 ?_
      refine g_getI h (v := M16 9 0 4) rfl (index := 228) (j := 4) iC_9_0 (C := RX3) (T := TX3) (N := 7) rfl n_X5_carryOutOrder_3 (by decide) rfl (by decide +kernel) dX5_carryOutOrder_63 ?_
      refine g_ni (fun v18 => ?_)
      refine g_callI h (As := [.int v18]) (fun t => uM M16 1 t) (fun r t hG => MI_self (c_X4_threadAgain l ω 1 kS1 M16 _ v18 hG)) (inS kS1 0 (by decide)) (C := RX4) (T := TX4) (N := 13) rfl 1 rfl gX5_carryOutOrder_X4_threadAgain rfl rfl rfl (by decide +kernel) (by decide) (st0 := _) rfl (Nat.le_of_ble_eq_true rfl) dX5_carryOutOrder_66 (fun r19 M20 => ?_)
      refine g_nm (fun M21 => ?_)
      exact g_iret hR rfl dX5_carryOutOrder_69
    · skip
      refine g_iload_n h 0 dX5_carryOutOrder_51 rfl rfl ?_
      refine g_goto h (tgt := 69) dX5_carryOutOrder_52 (by decide) ?_
      exact g_iret hR rfl dX5_carryOutOrder_69
  refine g_lsw h (off := 101) 108 dX5_carryOutOrder_7 (by decide) ((lv_osw hc2 rfl).trans ((lv_osw hc12 rfl).trans rfl)) (by decide) ?_
  refine g_aload_n h 0 dX5_carryOutOrder_108 rfl rfl ?_
  refine g_getR h (index := 10) (j := 0) iC_0_0 (C := RX5) (T := TX5) (N := 8) rfl n_X5_carryOutOrder_5 (by decide) rfl (by decide +kernel) dX5_carryOutOrder_109 ?_
  refine g_aload_n h 0 dX5_carryOutOrder_112 rfl rfl ?_
  refine g_getR h (index := 32) (j := 4) iC_0_0 (C := RX5) (T := TX5) (N := 8) rfl n_X5_carryOutOrder_5 (by decide) rfl (by decide +kernel) dX5_carryOutOrder_113 ?_
  refine g_getI h (v := M 9 0 4) rfl (index := 228) (j := 4) iC_9_0 (C := RX3) (T := TX3) (N := 7) rfl n_X5_carryOutOrder_3 (by decide) rfl (by decide +kernel) dX5_carryOutOrder_116 ?_
  refine g_ni (fun v22 => ?_)
  refine g_aload_n h 0 dX5_carryOutOrder_119 rfl rfl ?_
  refine g_getR h (index := 32) (j := 4) iC_0_0 (C := RX5) (T := TX5) (N := 8) rfl n_X5_carryOutOrder_5 (by decide) rfl (by decide +kernel) dX5_carryOutOrder_120 ?_
  refine g_getI h (v := M 9 0 5) rfl (index := 231) (j := 5) iC_9_0 (C := RX3) (T := TX3) (N := 7) rfl n_X5_carryOutOrder_3 (by decide) rfl (by decide +kernel) dX5_carryOutOrder_123 ?_
  refine g_ni (fun v23 => ?_)
  refine g_aload_n h 0 dX5_carryOutOrder_126 rfl rfl ?_
  refine g_getR h (index := 32) (j := 4) iC_0_0 (C := RX5) (T := TX5) (N := 8) rfl n_X5_carryOutOrder_5 (by decide) rfl (by decide +kernel) dX5_carryOutOrder_127 ?_
  refine g_getI h (v := M 9 0 6) rfl (index := 234) (j := 6) iC_9_0 (C := RX3) (T := TX3) (N := 7) rfl n_X5_carryOutOrder_3 (by decide) rfl (by decide +kernel) dX5_carryOutOrder_130 ?_
  refine g_ni (fun v24 => ?_)
  refine g_callI h (As := [.int v22, .int v23, .int v24]) (fun t => uM M 1 t) (fun r t hG => MI_self (c_X4_strikeError l ω 1 kS1 M _ v22 v23 v24 hG)) (inS kS1 0 (by decide)) (C := RX4) (T := TX4) (N := 13) rfl 3 rfl gX5_carryOutOrder_X4_strikeError rfl rfl rfl (by decide +kernel) (by decide) (st0 := _) rfl (Nat.le_of_ble_eq_true rfl) dX5_carryOutOrder_133 (fun r25 M26 => ?_)
  refine g_nm (fun M27 => ?_)
  refine g_istore_n h rfl (lv' := [(1, .int r25), (0, .ref (th ω 0 0))]) dX5_carryOutOrder_136 (by decide) [0, 1] rfl ?_
  refine g_iload_n h 0 dX5_carryOutOrder_137 rfl rfl ?_
  refine g_if_eq h 145 dX5_carryOutOrder_138 (by decide) (fun hc28 => ?_) (fun hc28 => ?_)
  · skip
    refine g_aload_n h 1 dX5_carryOutOrder_145 rfl rfl ?_
    refine g_getR h (index := 10) (j := 0) iC_0_0 (C := RX5) (T := TX5) (N := 8) rfl n_X5_carryOutOrder_5 (by decide) rfl (by decide +kernel) dX5_carryOutOrder_146 ?_
    refine g_aload_n h 1 dX5_carryOutOrder_149 rfl rfl ?_
    refine g_getR h (index := 32) (j := 4) iC_0_0 (C := RX5) (T := TX5) (N := 8) rfl n_X5_carryOutOrder_5 (by decide) rfl (by decide +kernel) dX5_carryOutOrder_150 ?_
    refine g_getI h (v := M27 9 0 4) rfl (index := 228) (j := 4) iC_9_0 (C := RX3) (T := TX3) (N := 7) rfl n_X5_carryOutOrder_3 (by decide) rfl (by decide +kernel) dX5_carryOutOrder_153 ?_
    refine g_ni (fun v29 => ?_)
    refine g_aload_n h 1 dX5_carryOutOrder_156 rfl rfl ?_
    refine g_getR h (index := 32) (j := 4) iC_0_0 (C := RX5) (T := TX5) (N := 8) rfl n_X5_carryOutOrder_5 (by decide) rfl (by decide +kernel) dX5_carryOutOrder_157 ?_
    refine g_getI h (v := M27 9 0 5) rfl (index := 231) (j := 5) iC_9_0 (C := RX3) (T := TX3) (N := 7) rfl n_X5_carryOutOrder_3 (by decide) rfl (by decide +kernel) dX5_carryOutOrder_160 ?_
    refine g_ni (fun v30 => ?_)
    refine g_aload_n h 1 dX5_carryOutOrder_163 rfl rfl ?_
    refine g_getR h (index := 32) (j := 4) iC_0_0 (C := RX5) (T := TX5) (N := 8) rfl n_X5_carryOutOrder_5 (by decide) rfl (by decide +kernel) dX5_carryOutOrder_164 ?_
    refine g_getI h (v := M27 9 0 6) rfl (index := 234) (j := 6) iC_9_0 (C := RX3) (T := TX3) (N := 7) rfl n_X5_carryOutOrder_3 (by decide) rfl (by decide +kernel) dX5_carryOutOrder_167 ?_
    refine g_ni (fun v31 => ?_)
    refine g_callI h (As := [.int v29, .int v30, .int v31]) (fun t => uM M27 1 t) (fun r t hG => MI_self (c_X4_hit l ω 1 kS1 M27 _ v29 v30 v31 hG)) (inS kS1 0 (by decide)) (C := RX4) (T := TX4) (N := 13) rfl 3 rfl gX5_carryOutOrder_X4_hit rfl rfl rfl (by decide +kernel) (by decide) (st0 := _) rfl (Nat.le_of_ble_eq_true rfl) dX5_carryOutOrder_170 (fun r32 M33 => ?_)
    refine g_nm (fun M34 => ?_)
    exact g_iret hR rfl dX5_carryOutOrder_173
  · skip
    refine g_iload_n h 0 dX5_carryOutOrder_141 rfl rfl ?_
    refine g_goto h (tgt := 173) dX5_carryOutOrder_142 (by decide) ?_
    exact g_iret hR rfl dX5_carryOutOrder_173
