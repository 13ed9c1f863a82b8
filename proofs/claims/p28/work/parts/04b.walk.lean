/-! WALKS (written by wip/whole/gen.py): X4_boutError, X4_conkersAheadOf, X4_conkerAtRank, X4_isOf, X4_conkersBeing, X4_conkersSmashedBy, X4_conkersWithHeir, X4_takeVictoriesOfSmashed, X4_crush, X4_fallIfWorn, X4_fallenError, X4_quotient, X4_inherit, X4_settleSmashes, X4_outcome, X4_hit, X4_fight, X4_isInLineOf -/
set_option maxHeartbeats 4000000 in
set_option maxRecDepth 100000 in
theorem c_X4_boutError (l : Launch) (ω : Wd) (k : Nat) (hk : kS k) (M0 : Mm) (T : Tm) (a1 : Int32) (a2 : Int32) (a3 : Int32) {r : Int32} {T' : Tm} (hm : m_X4_boutError a1 a2 a3 T = some (r, T')) : MI l yX4_boutError wsX4_boutError ⟨3, 0, 0, 66⟩ ω LC [.ref (th ω k 0), .int a1, .int a2, .int a3] (uM M0 k T) r (uM M0 k T') := by
  refine met_i (cc := cX4_boutError) (maxL := 4) (ty := .int) (by decide +kernel) rfl (Nat.le_of_ble_eq_true rfl) LC_nd ?_
  intro Γ h hR ht
  suffices K : Gq 0 Γ ω LC (uM M0 k) 0 [(0, .ref (th ω k 0)), (1, .int a1), (2, .int a2), (3, .int a3)] [] T (m_X4_boutError a1 a2 a3 T) from K (r, T') hm ht (c0 Γ)
  unfold m_X4_boutError
  refine g_aload_n h 0 dX4_boutError_0 rfl rfl ?_
  refine g_iload_n h 1 dX4_boutError_1 rfl rfl ?_
  refine g_iload_n h 2 dX4_boutError_2 rfl rfl ?_
  refine g_iload_n h 3 dX4_boutError_3 rfl rfl ?_
  refine g_iconst h 0 dX4_boutError_4 (by decide) ?_
  refine g_ldc h 65535 dX4_boutError_5 (by decide +kernel) ?_
  refine g_callPN h (As := [.int a3, .int 0, .int 65535]) (fun r t hG => c_X5_isWithin l ω M00 a3 0 65535 hG) 3 rfl gX4_boutError_X5_isWithin_n58 rfl (by decide +kernel) (by decide +kernel) (fun _ hz => hz) rfl rfl (by decide +kernel) (by decide) (st0 := _) rfl (Nat.le_of_ble_eq_true rfl) dX4_boutError_7 (fun r1 => ?_)
  refine g_callI h (As := [.int a1, .int a2, .int r1]) (fun t => t) (fun r t hG => c_X4_pairError l ω k hk M0 _ a1 a2 r1 hG) (inS hk 0 (by decide)) (C := RX4) (T := TX4) (N := 13) rfl 3 rfl gX4_boutError_X4_pairError rfl rfl rfl (by decide +kernel) (by decide) (st0 := _) rfl (Nat.le_of_ble_eq_true rfl) dX4_boutError_10 (fun r2 T3 => ?_)
  exact g_iret hR rfl dX4_boutError_13
theorem n_X4_conkersAheadOf_4 : ∀ w ∈ wsX40, w ∈ wsX4_conkersAheadOf := by decide +kernel
set_option maxHeartbeats 4000000 in
set_option maxRecDepth 100000 in
theorem b_X4_conkersAheadOf_84 {Γ : Cx} {l : Launch} {ω : Wd} {M0 : Mm} {k : Nat} (hk : kS k) (h : CxOk Γ l ⟨0, 0, 0, 0⟩ 6 ω LC cX4_conkersAheadOf yX4_conkersAheadOf.cls wsX4_conkersAheadOf) (hR : RetI Γ ω LC cX4_conkersAheadOf .int) (κ4 : Int32 → Int32 → Int32 → Tm → Option (Int32 × Tm)) (hκ4 : ∀ (b1 : Int32) (b2 : Int32) (b3 : Int32) (T : Tm), Gq 0 Γ ω LC (uM M0 k) 4 [(0, .ref (th ω k 0)), (1, .int b1), (2, .int b2), (3, .int b3)] [] T (κ4 b1 b2 b3 T)) : ∀ (b1 : Int32) (b2 : Int32) (b3 : Int32) (T : Tm), Gq 0 Γ ω LC (uM M0 k) 84 [(0, .ref (th ω k 0)), (1, .int b1), (2, .int b2), (3, .int b3)] [] T (m_X4_conkersAheadOf_84 κ4 b1 b2 b3 T) := by
  intro b1 b2 b3 T
  unfold m_X4_conkersAheadOf_84
  refine g_iinc h (b3 + 1) (lv' := [(3, .int (b3 + 1)), (0, .ref (th ω k 0)), (1, .int b1), (2, .int b2)]) dX4_conkersAheadOf_84 3 rfl (congrArg (fun z => b3 + z) (by decide)) (by decide) [0, 1, 2, 3] rfl ?_
  refine g_goto h (tgt := 4) dX4_conkersAheadOf_87 (by decide) ?_
  refine g_sub (lv' := [(0, .ref (th ω k 0)), (1, .int b1), (2, .int b2), (3, .int (b3 + 1))]) [1, 2, 3, 0] rfl ?_
  exact hκ4 _ _ _ _
set_option maxHeartbeats 4000000 in
set_option maxRecDepth 100000 in
theorem b_X4_conkersAheadOf_81 {Γ : Cx} {l : Launch} {ω : Wd} {M0 : Mm} {k : Nat} (hk : kS k) (h : CxOk Γ l ⟨0, 0, 0, 0⟩ 6 ω LC cX4_conkersAheadOf yX4_conkersAheadOf.cls wsX4_conkersAheadOf) (hR : RetI Γ ω LC cX4_conkersAheadOf .int) (κ4 : Int32 → Int32 → Int32 → Tm → Option (Int32 × Tm)) (hκ4 : ∀ (b1 : Int32) (b2 : Int32) (b3 : Int32) (T : Tm), Gq 0 Γ ω LC (uM M0 k) 4 [(0, .ref (th ω k 0)), (1, .int b1), (2, .int b2), (3, .int b3)] [] T (κ4 b1 b2 b3 T)) : ∀ (b1 : Int32) (b2 : Int32) (b3 : Int32) (T : Tm), Gq 0 Γ ω LC (uM M0 k) 81 [(0, .ref (th ω k 0)), (1, .int b1), (2, .int b2), (3, .int b3)] [] T (m_X4_conkersAheadOf_81 κ4 b1 b2 b3 T) := by
  intro b1 b2 b3 T
  unfold m_X4_conkersAheadOf_81
  refine g_iinc h (b2 + 1) (lv' := [(2, .int (b2 + 1)), (0, .ref (th ω k 0)), (1, .int b1), (3, .int b3)]) dX4_conkersAheadOf_81 2 rfl (congrArg (fun z => b2 + z) (by decide)) (by decide) [0, 1, 2, 3] rfl ?_
  refine g_sub (lv' := [(0, .ref (th ω k 0)), (1, .int b1), (2, .int (b2 + 1)), (3, .int b3)]) [1, 2, 0, 3] rfl ?_
  exact b_X4_conkersAheadOf_84 hk h hR _ hκ4 _ _ _ _
set_option maxHeartbeats 4000000 in
set_option maxRecDepth 100000 in
theorem b_X4_conkersAheadOf_59 {Γ : Cx} {l : Launch} {ω : Wd} {M0 : Mm} {k : Nat} (hk : kS k) (h : CxOk Γ l ⟨0, 0, 0, 0⟩ 6 ω LC cX4_conkersAheadOf yX4_conkersAheadOf.cls wsX4_conkersAheadOf) (hR : RetI Γ ω LC cX4_conkersAheadOf .int) (κ4 : Int32 → Int32 → Int32 → Tm → Option (Int32 × Tm)) (hκ4 : ∀ (b1 : Int32) (b2 : Int32) (b3 : Int32) (T : Tm), Gq 0 Γ ω LC (uM M0 k) 4 [(0, .ref (th ω k 0)), (1, .int b1), (2, .int b2), (3, .int b3)] [] T (κ4 b1 b2 b3 T)) : ∀ (b1 : Int32) (b2 : Int32) (b3 : Int32) (b4 : Int32) (s0 : Int32) (T : Tm), Gq 0 Γ ω LC (uM M0 k) 59 [(0, .ref (th ω k 0)), (1, .int b1), (2, .int b2), (3, .int b3), (4, .int b4)] [.int s0] T (m_X4_conkersAheadOf_59 κ4 b1 b2 b3 b4 s0 T) := by
  intro b1 b2 b3 b4 s0 T
  unfold m_X4_conkersAheadOf_59
  refine g_istore h (lv' := [(5, .int s0), (0, .ref (th ω k 0)), (1, .int b1), (2, .int b2), (3, .int b3), (4, .int b4)]) dX4_conkersAheadOf_59 (by decide) [0, 1, 2, 3, 4, 5] rfl ?_
  refine g_aload_n h 1 dX4_conkersAheadOf_61 rfl rfl ?_
  refine g_getR h (index := 36) (j := 8) (inS hk 0 (by decide)) (C := RX4) (T := TX4) (N := 13) rfl n_X4_conkersAheadOf_4 (by decide) rfl (by decide +kernel) dX4_conkersAheadOf_62 ?_
  refine g_iload_n h 4 dX4_conkersAheadOf_65 rfl rfl ?_
  refine g_iald h (v := T 9 b3.toNatClampNeg) (uMr M0 k _ _ _) (inS hk 9 (by decide)) dX4_conkersAheadOf_66 ?_
  refine g_ni (fun v1 => ?_)
  refine g_iconst h 2 dX4_conkersAheadOf_67 (by decide) ?_
  refine g_icmp_eq h 84 dX4_conkersAheadOf_68 (by decide) (fun hc2 => ?_) (fun hc2 => ?_)
  · skip
    refine g_sub (lv' := [(0, .ref (th ω k 0)), (1, .int b1), (2, .int b2), (3, .int b3)]) [1, 2, 3, 4] rfl ?_
    exact b_X4_conkersAheadOf_84 hk h hR _ hκ4 _ _ _ _
  · skip
    refine g_iload h 5 dX4_conkersAheadOf_71 rfl ?_
    refine g_if_ne h 81 dX4_conkersAheadOf_73 (by decide) (fun hc3 => ?_) (fun hc3 => ?_)
    · skip
      refine g_iload h 0 dX4_conkersAheadOf_76 rfl ?_
      refine g_if_eq h 84 dX4_conkersAheadOf_78 (by decide) (fun hc4 => ?_) (fun hc4 => ?_)
      · skip
        refine g_sub (lv' := [(0, .ref (th ω k 0)), (1, .int b1), (2, .int b2), (3, .int b3)]) [1, 2, 3, 4] rfl ?_
        exact b_X4_conkersAheadOf_84 hk h hR _ hκ4 _ _ _ _
      · skip
        refine g_sub (lv' := [(0, .ref (th ω k 0)), (1, .int b1), (2, .int b2), (3, .int b3)]) [1, 2, 3, 4] rfl ?_
        exact b_X4_conkersAheadOf_81 hk h hR _ hκ4 _ _ _ _
    · skip
      refine g_sub (lv' := [(0, .ref (th ω k 0)), (1, .int b1), (2, .int b2), (3, .int b3)]) [1, 2, 3, 4] rfl ?_
      exact b_X4_conkersAheadOf_81 hk h hR _ hκ4 _ _ _ _
set_option maxHeartbeats 4000000 in
set_option maxRecDepth 100000 in
theorem b_X4_conkersAheadOf_58 {Γ : Cx} {l : Launch} {ω : Wd} {M0 : Mm} {k : Nat} (hk : kS k) (h : CxOk Γ l ⟨0, 0, 0, 0⟩ 6 ω LC cX4_conkersAheadOf yX4_conkersAheadOf.cls wsX4_conkersAheadOf) (hR : RetI Γ ω LC cX4_conkersAheadOf .int) (κ4 : Int32 → Int32 → Int32 → Tm → Option (Int32 × Tm)) (hκ4 : ∀ (b1 : Int32) (b2 : Int32) (b3 : Int32) (T : Tm), Gq 0 Γ ω LC (uM M0 k) 4 [(0, .ref (th ω k 0)), (1, .int b1), (2, .int b2), (3, .int b3)] [] T (κ4 b1 b2 b3 T)) : ∀ (b1 : Int32) (b2 : Int32) (b3 : Int32) (b4 : Int32) (T : Tm), Gq 0 Γ ω LC (uM M0 k) 58 [(0, .ref (th ω k 0)), (1, .int b1), (2, .int b2), (3, .int b3), (4, .int b4)] [] T (m_X4_conkersAheadOf_58 κ4 b1 b2 b3 b4 T) := by
  intro b1 b2 b3 b4 T
  unfold m_X4_conkersAheadOf_58
  refine g_iconst h 0 dX4_conkersAheadOf_58 (by decide) ?_
  exact b_X4_conkersAheadOf_59 hk h hR _ hκ4 _ _ _ _ _ _
set_option maxHeartbeats 4000000 in
set_option maxRecDepth 100000 in
theorem b_X4_conkersAheadOf_32 {Γ : Cx} {l : Launch} {ω : Wd} {M0 : Mm} {k : Nat} (hk : kS k) (h : CxOk Γ l ⟨0, 0, 0, 0⟩ 6 ω LC cX4_conkersAheadOf yX4_conkersAheadOf.cls wsX4_conkersAheadOf) (hR : RetI Γ ω LC cX4_conkersAheadOf .int) (κ4 : Int32 → Int32 → Int32 → Tm → Option (Int32 × Tm)) (hκ4 : ∀ (b1 : Int32) (b2 : Int32) (b3 : Int32) (T : Tm), Gq 0 Γ ω LC (uM M0 k) 4 [(0, .ref (th ω k 0)), (1, .int b1), (2, .int b2), (3, .int b3)] [] T (κ4 b1 b2 b3 T)) : ∀ (b1 : Int32) (b2 : Int32) (b3 : Int32) (s0 : Int32) (T : Tm), Gq 0 Γ ω LC (uM M0 k) 32 [(0, .ref (th ω k 0)), (1, .int b1), (2, .int b2), (3, .int b3)] [.int s0] T (m_X4_conkersAheadOf_32 κ4 b1 b2 b3 s0 T) := by
  intro b1 b2 b3 s0 T
  unfold m_X4_conkersAheadOf_32
  refine g_istore h (lv' := [(4, .int s0), (0, .ref (th ω k 0)), (1, .int b1), (2, .int b2), (3, .int b3)]) dX4_conkersAheadOf_32 (by decide) [0, 1, 2, 3, 4] rfl ?_
  refine g_aload_n h 1 dX4_conkersAheadOf_34 rfl rfl ?_
  refine g_getR h (index := 30) (j := 6) (inS hk 0 (by decide)) (C := RX4) (T := TX4) (N := 13) rfl n_X4_conkersAheadOf_4 (by decide) rfl (by decide +kernel) dX4_conkersAheadOf_35 ?_
  refine g_iload_n h 4 dX4_conkersAheadOf_38 rfl rfl ?_
  refine g_iald h (v := T 7 b3.toNatClampNeg) (uMr M0 k _ _ _) (inS hk 7 (by decide)) dX4_conkersAheadOf_39 ?_
  refine g_ni (fun v1 => ?_)
  refine g_aload_n h 1 dX4_conkersAheadOf_40 rfl rfl ?_
  refine g_getR h (index := 30) (j := 6) (inS hk 0 (by decide)) (C := RX4) (T := TX4) (N := 13) rfl n_X4_conkersAheadOf_4 (by decide) rfl (by decide +kernel) dX4_conkersAheadOf_41 ?_
  refine g_iload_n h 2 dX4_conkersAheadOf_44 rfl rfl ?_
  refine g_iald h (v := T 7 b1.toNatClampNeg) (uMr M0 k _ _ _) (inS hk 7 (by decide)) dX4_conkersAheadOf_45 ?_
  refine g_ni (fun v2 => ?_)
  refine g_icmp_ne h 58 dX4_conkersAheadOf_46 (by decide) (fun hc3 => ?_) (fun hc3 => ?_)
  · skip
    refine g_iload_n h 4 dX4_conkersAheadOf_49 rfl rfl ?_
    refine g_iload_n h 2 dX4_conkersAheadOf_50 rfl rfl ?_
    refine g_icmp_ge h 58 dX4_conkersAheadOf_51 (by decide) (fun hc4 => ?_) (fun hc4 => ?_)
    · skip
      refine g_sub (lv' := [(0, .ref (th ω k 0)), (1, .int b1), (2, .int b2), (3, .int b3), (4, .int s0)]) [1, 2, 3, 4, 0] rfl ?_
      exact b_X4_conkersAheadOf_58 hk h hR _ hκ4 _ _ _ _ _
    · skip
      refine g_iconst h 1 dX4_conkersAheadOf_54 (by decide) ?_
      refine g_goto h (tgt := 59) dX4_conkersAheadOf_55 (by decide) ?_
      refine g_sub (lv' := [(0, .ref (th ω k 0)), (1, .int b1), (2, .int b2), (3, .int b3), (4, .int s0)]) [1, 2, 3, 4, 0] rfl ?_
      exact b_X4_conkersAheadOf_59 hk h hR _ hκ4 _ _ _ _ _ _
  · skip
    refine g_sub (lv' := [(0, .ref (th ω k 0)), (1, .int b1), (2, .int b2), (3, .int b3), (4, .int s0)]) [1, 2, 3, 4, 0] rfl ?_
    exact b_X4_conkersAheadOf_58 hk h hR _ hκ4 _ _ _ _ _
set_option maxHeartbeats 4000000 in
set_option maxRecDepth 100000 in
theorem b_X4_conkersAheadOf_4 {Γ : Cx} {l : Launch} {ω : Wd} {M0 : Mm} {k : Nat} (hk : kS k) (h : CxOk Γ l ⟨0, 0, 0, 0⟩ 6 ω LC cX4_conkersAheadOf yX4_conkersAheadOf.cls wsX4_conkersAheadOf) (hR : RetI Γ ω LC cX4_conkersAheadOf .int) : ∀ (n : Nat) (b1 : Int32) (b2 : Int32) (b3 : Int32) (T : Tm), Gq 0 Γ ω LC (uM M0 k) 4 [(0, .ref (th ω k 0)), (1, .int b1), (2, .int b2), (3, .int b3)] [] T (m_X4_conkersAheadOf_4 n b1 b2 b3 T) := by
  intro n
  induction n with
  | zero =>
    intro b1 b2 b3 T
    rw [m_X4_conkersAheadOf_4.eq_1]
    exact g_none
  | succ n ih =>
    intro b1 b2 b3 T
    rw [m_X4_conkersAheadOf_4.eq_2]
    refine g_iload_n h 3 dX4_conkersAheadOf_4 rfl rfl ?_
    refine g_aload_n h 0 dX4_conkersAheadOf_5 rfl rfl ?_
    refine g_getI h (v := T 0 10) (uMr M0 k _ _ _) (index := 42) (j := 10) (inS hk 0 (by decide)) (C := RX4) (T := TX4) (N := 13) rfl n_X4_conkersAheadOf_4 (by decide) rfl (by decide +kernel) dX4_conkersAheadOf_6 ?_
    refine g_ni (fun v1 => ?_)
    refine g_icmp_ge h 90 dX4_conkersAheadOf_9 (by decide) (fun hc2 => ?_) (fun hc2 => ?_)
    · skip
      refine g_iload_n h 2 dX4_conkersAheadOf_90 rfl rfl ?_
      exact g_iret hR rfl dX4_conkersAheadOf_91
    · skip
      refine g_aload_n h 0 dX4_conkersAheadOf_12 rfl rfl ?_
      refine g_getR h (index := 30) (j := 6) (inS hk 0 (by decide)) (C := RX4) (T := TX4) (N := 13) rfl n_X4_conkersAheadOf_4 (by decide) rfl (by decide +kernel) dX4_conkersAheadOf_13 ?_
      refine g_iload_n h 3 dX4_conkersAheadOf_16 rfl rfl ?_
      refine g_iald h (v := T 7 b3.toNatClampNeg) (uMr M0 k _ _ _) (inS hk 7 (by decide)) dX4_conkersAheadOf_17 ?_
      refine g_ni (fun v3 => ?_)
      refine g_aload_n h 0 dX4_conkersAheadOf_18 rfl rfl ?_
      refine g_getR h (index := 30) (j := 6) (inS hk 0 (by decide)) (C := RX4) (T := TX4) (N := 13) rfl n_X4_conkersAheadOf_4 (by decide) rfl (by decide +kernel) dX4_conkersAheadOf_19 ?_
      refine g_iload_n h 1 dX4_conkersAheadOf_22 rfl rfl ?_
      refine g_iald h (v := T 7 b1.toNatClampNeg) (uMr M0 k _ _ _) (inS hk 7 (by decide)) dX4_conkersAheadOf_23 ?_
      refine g_ni (fun v4 => ?_)
      refine g_icmp_le h 31 dX4_conkersAheadOf_24 (by decide) (fun hc5 => ?_) (fun hc5 => ?_)
      · skip
        refine g_iconst h 0 dX4_conkersAheadOf_31 (by decide) ?_
        exact b_X4_conkersAheadOf_32 hk h hR _ ih _ _ _ _ _
      · skip
        refine g_iconst h 1 dX4_conkersAheadOf_27 (by decide) ?_
        refine g_goto h (tgt := 32) dX4_conkersAheadOf_28 (by decide) ?_
        exact b_X4_conkersAheadOf_32 hk h hR _ ih _ _ _ _ _
set_option maxHeartbeats 4000000 in
set_option maxRecDepth 100000 in
theorem c_X4_conkersAheadOf (l : Launch) (ω : Wd) (k : Nat) (hk : kS k) (M0 : Mm) (T : Tm) (a1 : Int32) {r : Int32} {T' : Tm} (hm : m_X4_conkersAheadOf a1 T = some (r, T')) : MI l yX4_conkersAheadOf wsX4_conkersAheadOf ⟨0, 0, 0, 0⟩ ω LC [.ref (th ω k 0), .int a1] (uM M0 k T) r (uM M0 k T') := by
  refine met_i (cc := cX4_conkersAheadOf) (maxL := 6) (ty := .int) (by decide +kernel) rfl (Nat.le_of_ble_eq_true rfl) LC_nd ?_
  intro Γ h hR ht
  suffices K : Gq 0 Γ ω LC (uM M0 k) 0 [(0, .ref (th ω k 0)), (1, .int a1)] [] T (m_X4_conkersAheadOf a1 T) from K (r, T') hm ht (c0 Γ)
  unfold m_X4_conkersAheadOf
  refine g_iconst h 0 dX4_conkersAheadOf_0 (by decide) ?_
  refine g_istore_n h rfl (lv' := [(2, .int 0), (0, .ref (th ω k 0)), (1, .int a1)]) dX4_conkersAheadOf_1 (by decide) [0, 1, 2] rfl ?_
  refine g_iconst h 0 dX4_conkersAheadOf_2 (by decide) ?_
  refine g_istore_n h rfl (lv' := [(3, .int 0), (2, .int 0), (0, .ref (th ω k 0)), (1, .int a1)]) dX4_conkersAheadOf_3 (by decide) [0, 1, 2, 3] rfl ?_
  refine g_sub (lv' := [(0, .ref (th ω k 0)), (1, .int a1), (2, .int 0), (3, .int 0)]) [2, 3, 1, 0] rfl ?_
  exact b_X4_conkersAheadOf_4 hk h hR fu _ _ _ _
theorem n_X4_conkerAtRank_4 : ∀ w ∈ wsX40, w ∈ wsX4_conkerAtRank := by decide +kernel
set_option maxHeartbeats 4000000 in
set_option maxRecDepth 100000 in
theorem b_X4_conkerAtRank_31 {Γ : Cx} {l : Launch} {ω : Wd} {M0 : Mm} {k : Nat} (hk : kS k) (h : CxOk Γ l ⟨1, 0, 0, 25⟩ 3 ω LC cX4_conkerAtRank yX4_conkerAtRank.cls wsX4_conkerAtRank) (hR : RetI Γ ω LC cX4_conkerAtRank .int) (κ2 : Int32 → Int32 → Tm → Option (Int32 × Tm)) (hκ2 : ∀ (b1 : Int32) (b2 : Int32) (T : Tm), Gq 0 Γ ω LC (uM M0 k) 2 [(0, .ref (th ω k 0)), (1, .int b1), (2, .int b2)] [] T (κ2 b1 b2 T)) : ∀ (b1 : Int32) (b2 : Int32) (T : Tm), Gq 0 Γ ω LC (uM M0 k) 31 [(0, .ref (th ω k 0)), (1, .int b1), (2, .int b2)] [] T (m_X4_conkerAtRank_31 κ2 b1 b2 T) := by
  intro b1 b2 T
  unfold m_X4_conkerAtRank_31
  refine g_iinc h (b2 + 1) (lv' := [(2, .int (b2 + 1)), (0, .ref (th ω k 0)), (1, .int b1)]) dX4_conkerAtRank_31 2 rfl (congrArg (fun z => b2 + z) (by decide)) (by decide) [0, 1, 2] rfl ?_
  refine g_goto h (tgt := 2) dX4_conkerAtRank_34 (by decide) ?_
  refine g_sub (lv' := [(0, .ref (th ω k 0)), (1, .int b1), (2, .int (b2 + 1))]) [1, 2, 0] rfl ?_
  exact hκ2 _ _ _
set_option maxHeartbeats 4000000 in
set_option maxRecDepth 100000 in
theorem b_X4_conkerAtRank_2 {Γ : Cx} {l : Launch} {ω : Wd} {M0 : Mm} {k : Nat} (hk : kS k) (h : CxOk Γ l ⟨1, 0, 0, 25⟩ 3 ω LC cX4_conkerAtRank yX4_conkerAtRank.cls wsX4_conkerAtRank) (hR : RetI Γ ω LC cX4_conkerAtRank .int) : ∀ (n : Nat) (b1 : Int32) (b2 : Int32) (T : Tm), Gq 0 Γ ω LC (uM M0 k) 2 [(0, .ref (th ω k 0)), (1, .int b1), (2, .int b2)] [] T (m_X4_conkerAtRank_2 n b1 b2 T) := by
  intro n
  induction n with
  | zero =>
    intro b1 b2 T
    rw [m_X4_conkerAtRank_2.eq_1]
    exact g_none
  | succ n ih =>
    intro b1 b2 T
    rw [m_X4_conkerAtRank_2.eq_2]
    refine g_iload_n h 2 dX4_conkerAtRank_2 rfl rfl ?_
    refine g_aload_n h 0 dX4_conkerAtRank_3 rfl rfl ?_
    refine g_getI h (v := T 0 10) (uMr M0 k _ _ _) (index := 42) (j := 10) (inS hk 0 (by decide)) (C := RX4) (T := TX4) (N := 13) rfl n_X4_conkerAtRank_4 (by decide) rfl (by decide +kernel) dX4_conkerAtRank_4 ?_
    refine g_ni (fun v1 => ?_)
    refine g_icmp_ge h 37 dX4_conkerAtRank_7 (by decide) (fun hc2 => ?_) (fun hc2 => ?_)
    · skip
      refine g_bipush h (-5) dX4_conkerAtRank_37 (by decide) ?_
      exact g_iret hR rfl dX4_conkerAtRank_39
    · skip
      refine g_aload_n h 0 dX4_conkerAtRank_10 rfl rfl ?_
      refine g_getR h (index := 36) (j := 8) (inS hk 0 (by decide)) (C := RX4) (T := TX4) (N := 13) rfl n_X4_conkerAtRank_4 (by decide) rfl (by decide +kernel) dX4_conkerAtRank_11 ?_
      refine g_iload_n h 2 dX4_conkerAtRank_14 rfl rfl ?_
      refine g_iald h (v := T 9 b2.toNatClampNeg) (uMr M0 k _ _ _) (inS hk 9 (by decide)) dX4_conkerAtRank_15 ?_
      refine g_ni (fun v3 => ?_)
      refine g_iconst h 2 dX4_conkerAtRank_16 (by decide) ?_
      refine g_icmp_eq h 31 dX4_conkerAtRank_17 (by decide) (fun hc4 => ?_) (fun hc4 => ?_)
      · skip
        exact b_X4_conkerAtRank_31 hk h hR _ ih _ _ _
      · skip
        refine g_aload_n h 0 dX4_conkerAtRank_20 rfl rfl ?_
        refine g_iload_n h 2 dX4_conkerAtRank_21 rfl rfl ?_
        refine g_callI h (As := [.int b2]) (fun t => t) (fun r t hG => c_X4_conkersAheadOf l ω k hk M0 _ b2 hG) (inS hk 0 (by decide)) (C := RX4) (T := TX4) (N := 13) rfl 1 rfl gX4_conkerAtRank_X4_conkersAheadOf rfl rfl rfl (by decide +kernel) (by decide) (st0 := _) rfl (Nat.le_of_ble_eq_true rfl) dX4_conkerAtRank_22 (fun r5 T6 => ?_)
        refine g_iload_n h 1 dX4_conkerAtRank_25 rfl rfl ?_
        refine g_icmp_ne h 31 dX4_conkerAtRank_26 (by decide) (fun hc7 => ?_) (fun hc7 => ?_)
        · skip
          refine g_iload_n h 2 dX4_conkerAtRank_29 rfl rfl ?_
          exact g_iret hR rfl dX4_conkerAtRank_30
        · skip
          exact b_X4_conkerAtRank_31 hk h hR _ ih _ _ _
set_option maxHeartbeats 4000000 in
set_option maxRecDepth 100000 in
theorem c_X4_conkerAtRank (l : Launch) (ω : Wd) (k : Nat) (hk : kS k) (M0 : Mm) (T : Tm) (a1 : Int32) {r : Int32} {T' : Tm} (hm : m_X4_conkerAtRank a1 T = some (r, T')) : MI l yX4_conkerAtRank wsX4_conkerAtRank ⟨1, 0, 0, 25⟩ ω LC [.ref (th ω k 0), .int a1] (uM M0 k T) r (uM M0 k T') := by
  refine met_i (cc := cX4_conkerAtRank) (maxL := 3) (ty := .int) (by decide +kernel) rfl (Nat.le_of_ble_eq_true rfl) LC_nd ?_
  intro Γ h hR ht
  suffices K : Gq 0 Γ ω LC (uM M0 k) 0 [(0, .ref (th ω k 0)), (1, .int a1)] [] T (m_X4_conkerAtRank a1 T) from K (r, T') hm ht (c0 Γ)
  unfold m_X4_conkerAtRank
  refine g_iconst h 0 dX4_conkerAtRank_0 (by decide) ?_
  refine g_istore_n h rfl (lv' := [(2, .int 0), (0, .ref (th ω k 0)), (1, .int a1)]) dX4_conkerAtRank_1 (by decide) [0, 1, 2] rfl ?_
  refine g_sub (lv' := [(0, .ref (th ω k 0)), (1, .int a1), (2, .int 0)]) [1, 2, 0] rfl ?_
  exact b_X4_conkerAtRank_2 hk h hR fu _ _ _
theorem n_X4_isOf_4 : ∀ w ∈ wsX40, w ∈ wsX4_isOf := by decide +kernel
set_option maxHeartbeats 4000000 in
set_option maxRecDepth 100000 in
theorem b_X4_isOf_15 {Γ : Cx} {l : Launch} {ω : Wd} {M0 : Mm} {k : Nat} (hk : kS k) (h : CxOk Γ l ⟨0, 0, 0, 0⟩ 3 ω LC cX4_isOf yX4_isOf.cls wsX4_isOf) (hR : RetI Γ ω LC cX4_isOf .boolean) : ∀ (T : Tm), Gq 0 Γ ω LC (uM M0 k) 15 [] [] T (m_X4_isOf_15 T) := by
  intro T
  unfold m_X4_isOf_15
  refine g_iconst h 1 dX4_isOf_15 (by decide) ?_
  refine g_goto h (tgt := 20) dX4_isOf_16 (by decide) ?_
  exact g_iret hR (by decide) dX4_isOf_20
set_option maxHeartbeats 4000000 in
set_option maxRecDepth 100000 in
theorem c_X4_isOf (l : Launch) (ω : Wd) (k : Nat) (hk : kS k) (M0 : Mm) (T : Tm) (a1 : Int32) (a2 : Int32) {r : Int32} {T' : Tm} (hm : m_X4_isOf a1 a2 T = some (r, T')) : MI l yX4_isOf wsX4_isOf ⟨0, 0, 0, 0⟩ ω LC [.ref (th ω k 0), .int a1, .int a2] (uM M0 k T) r (uM M0 k T') := by
  refine met_i (cc := cX4_isOf) (maxL := 3) (ty := .boolean) (by decide +kernel) rfl (Nat.le_of_ble_eq_true rfl) LC_nd ?_
  intro Γ h hR ht
  suffices K : Gq 0 Γ ω LC (uM M0 k) 0 [(0, .ref (th ω k 0)), (1, .int a1), (2, .int a2)] [] T (m_X4_isOf a1 a2 T) from K (r, T') hm ht (c0 Γ)
  unfold m_X4_isOf
  refine g_iload_n h 2 dX4_isOf_0 rfl rfl ?_
  refine g_iconst h (-1) dX4_isOf_1 (by decide) ?_
  refine g_icmp_eq h 15 dX4_isOf_2 (by decide) (fun hc1 => ?_) (fun hc1 => ?_)
  · skip
    refine g_sub (lv' := []) [] rfl ?_
    exact b_X4_isOf_15 hk h hR _
  · skip
    refine g_aload_n h 0 dX4_isOf_5 rfl rfl ?_
    refine g_getR h (index := 18) (j := 2) (inS hk 0 (by decide)) (C := RX4) (T := TX4) (N := 13) rfl n_X4_isOf_4 (by decide) rfl (by decide +kernel) dX4_isOf_6 ?_
    refine g_iload_n h 1 dX4_isOf_9 rfl rfl ?_
    refine g_iald h (v := T 3 a1.toNatClampNeg) (uMr M0 k _ _ _) (inS hk 3 (by decide)) dX4_isOf_10 ?_
    refine g_ni (fun v2 => ?_)
    refine g_iload_n h 2 dX4_isOf_11 rfl rfl ?_
    refine g_icmp_ne h 19 dX4_isOf_12 (by decide) (fun hc3 => ?_) (fun hc3 => ?_)
    · skip
      refine g_sub (lv' := []) [] rfl ?_
      exact b_X4_isOf_15 hk h hR _
    · skip
      refine g_iconst h 0 dX4_isOf_19 (by decide) ?_
      exact g_iret hR (by decide) dX4_isOf_20
theorem n_X4_conkersBeing_4 : ∀ w ∈ wsX40, w ∈ wsX4_conkersBeing := by decide +kernel
set_option maxHeartbeats 4000000 in
set_option maxRecDepth 100000 in
theorem b_X4_conkersBeing_38 {Γ : Cx} {l : Launch} {ω : Wd} {M0 : Mm} {k : Nat} (hk : kS k) (h : CxOk Γ l ⟨1, 0, 0, 22⟩ 5 ω LC cX4_conkersBeing yX4_conkersBeing.cls wsX4_conkersBeing) (hR : RetI Γ ω LC cX4_conkersBeing .int) (κ5 : Int32 → Int32 → Int32 → Int32 → Tm → Option (Int32 × Tm)) (hκ5 : ∀ (b1 : Int32) (b2 : Int32) (b3 : Int32) (b4 : Int32) (T : Tm), Gq 0 Γ ω LC (uM M0 k) 5 [(0, .ref (th ω k 0)), (1, .int b1), (2, .int b2), (3, .int b3), (4, .int b4)] [] T (κ5 b1 b2 b3 b4 T)) : ∀ (b1 : Int32) (b2 : Int32) (b3 : Int32) (b4 : Int32) (T : Tm), Gq 0 Γ ω LC (uM M0 k) 38 [(0, .ref (th ω k 0)), (1, .int b1), (2, .int b2), (3, .int b3), (4, .int b4)] [] T (m_X4_conkersBeing_38 κ5 b1 b2 b3 b4 T) := by
  intro b1 b2 b3 b4 T
  unfold m_X4_conkersBeing_38
  refine g_iinc h (b4 + 1) (lv' := [(4, .int (b4 + 1)), (0, .ref (th ω k 0)), (1, .int b1), (2, .int b2), (3, .int b3)]) dX4_conkersBeing_38 4 rfl (congrArg (fun z => b4 + z) (by decide)) (by decide) [0, 1, 2, 3, 4] rfl ?_
  refine g_goto h (tgt := 5) dX4_conkersBeing_41 (by decide) ?_
  refine g_sub (lv' := [(0, .ref (th ω k 0)), (1, .int b1), (2, .int b2), (3, .int b3), (4, .int (b4 + 1))]) [1, 2, 3, 4, 0] rfl ?_
  exact hκ5 _ _ _ _ _
set_option maxHeartbeats 4000000 in
set_option maxRecDepth 100000 in
theorem b_X4_conkersBeing_5 {Γ : Cx} {l : Launch} {ω : Wd} {M0 : Mm} {k : Nat} (hk : kS k) (h : CxOk Γ l ⟨1, 0, 0, 22⟩ 5 ω LC cX4_conkersBeing yX4_conkersBeing.cls wsX4_conkersBeing) (hR : RetI Γ ω LC cX4_conkersBeing .int) : ∀ (n : Nat) (b1 : Int32) (b2 : Int32) (b3 : Int32) (b4 : Int32) (T : Tm), Gq 0 Γ ω LC (uM M0 k) 5 [(0, .ref (th ω k 0)), (1, .int b1), (2, .int b2), (3, .int b3), (4, .int b4)] [] T (m_X4_conkersBeing_5 n b1 b2 b3 b4 T) := by
  intro n
  induction n with
  | zero =>
    intro b1 b2 b3 b4 T
    rw [m_X4_conkersBeing_5.eq_1]
    exact g_none
  | succ n ih =>
    intro b1 b2 b3 b4 T
    rw [m_X4_conkersBeing_5.eq_2]
    refine g_iload h 4 dX4_conkersBeing_5 rfl ?_
    refine g_aload_n h 0 dX4_conkersBeing_7 rfl rfl ?_
    refine g_getI h (v := T 0 10) (uMr M0 k _ _ _) (index := 42) (j := 10) (inS hk 0 (by decide)) (C := RX4) (T := TX4) (N := 13) rfl n_X4_conkersBeing_4 (by decide) rfl (by decide +kernel) dX4_conkersBeing_8 ?_
    refine g_ni (fun v1 => ?_)
    refine g_icmp_ge h 44 dX4_conkersBeing_11 (by decide) (fun hc2 => ?_) (fun hc2 => ?_)
    · skip
      refine g_iload_n h 3 dX4_conkersBeing_44 rfl rfl ?_
      exact g_iret hR rfl dX4_conkersBeing_45
    · skip
      refine g_aload_n h 0 dX4_conkersBeing_14 rfl rfl ?_
      refine g_getR h (index := 36) (j := 8) (inS hk 0 (by decide)) (C := RX4) (T := TX4) (N := 13) rfl n_X4_conkersBeing_4 (by decide) rfl (by decide +kernel) dX4_conkersBeing_15 ?_
      refine g_iload h 4 dX4_conkersBeing_18 rfl ?_
      refine g_iald h (v := T 9 b4.toNatClampNeg) (uMr M0 k _ _ _) (inS hk 9 (by decide)) dX4_conkersBeing_20 ?_
      refine g_ni (fun v3 => ?_)
      refine g_iload_n h 1 dX4_conkersBeing_21 rfl rfl ?_
      refine g_icmp_ne h 38 dX4_conkersBeing_22 (by decide) (fun hc4 => ?_) (fun hc4 => ?_)
      · skip
        refine g_aload_n h 0 dX4_conkersBeing_25 rfl rfl ?_
        refine g_iload h 4 dX4_conkersBeing_26 rfl ?_
        refine g_iload_n h 2 dX4_conkersBeing_28 rfl rfl ?_
        refine g_callI h (As := [.int b4, .int b2]) (fun t => t) (fun r t hG => c_X4_isOf l ω k hk M0 _ b4 b2 hG) (inS hk 0 (by decide)) (C := RX4) (T := TX4) (N := 13) rfl 2 rfl gX4_conkersBeing_X4_isOf rfl rfl rfl (by decide +kernel) (by decide) (st0 := _) rfl (Nat.le_of_ble_eq_true rfl) dX4_conkersBeing_29 (fun r5 T6 => ?_)
        refine g_if_eq h 38 dX4_conkersBeing_32 (by decide) (fun hc7 => ?_) (fun hc7 => ?_)
        · skip
          exact b_X4_conkersBeing_38 hk h hR _ ih _ _ _ _ _
        · skip
          refine g_iinc h (b3 + 1) (lv' := [(3, .int (b3 + 1)), (0, .ref (th ω k 0)), (1, .int b1), (2, .int b2), (4, .int b4)]) dX4_conkersBeing_35 3 rfl (congrArg (fun z => b3 + z) (by decide)) (by decide) [0, 1, 2, 3, 4] rfl ?_
          refine g_sub (lv' := [(0, .ref (th ω k 0)), (1, .int b1), (2, .int b2), (3, .int (b3 + 1)), (4, .int b4)]) [1, 2, 3, 0, 4] rfl ?_
          exact b_X4_conkersBeing_38 hk h hR _ ih _ _ _ _ _
      · skip
        exact b_X4_conkersBeing_38 hk h hR _ ih _ _ _ _ _
set_option maxHeartbeats 4000000 in
set_option maxRecDepth 100000 in
theorem c_X4_conkersBeing (l : Launch) (ω : Wd) (k : Nat) (hk : kS k) (M0 : Mm) (T : Tm) (a1 : Int32) (a2 : Int32) {r : Int32} {T' : Tm} (hm : m_X4_conkersBeing a1 a2 T = some (r, T')) : MI l yX4_conkersBeing wsX4_conkersBeing ⟨1, 0, 0, 22⟩ ω LC [.ref (th ω k 0), .int a1, .int a2] (uM M0 k T) r (uM M0 k T') := by
  refine met_i (cc := cX4_conkersBeing) (maxL := 5) (ty := .int) (by decide +kernel) rfl (Nat.le_of_ble_eq_true rfl) LC_nd ?_
  intro Γ h hR ht
  suffices K : Gq 0 Γ ω LC (uM M0 k) 0 [(0, .ref (th ω k 0)), (1, .int a1), (2, .int a2)] [] T (m_X4_conkersBeing a1 a2 T) from K (r, T') hm ht (c0 Γ)
  unfold m_X4_conkersBeing
  refine g_iconst h 0 dX4_conkersBeing_0 (by decide) ?_
  refine g_istore_n h rfl (lv' := [(3, .int 0), (0, .ref (th ω k 0)), (1, .int a1), (2, .int a2)]) dX4_conkersBeing_1 (by decide) [0, 1, 2, 3] rfl ?_
  refine g_iconst h 0 dX4_conkersBeing_2 (by decide) ?_
  refine g_istore h (lv' := [(4, .int 0), (3, .int 0), (0, .ref (th ω k 0)), (1, .int a1), (2, .int a2)]) dX4_conkersBeing_3 (by decide) [0, 1, 2, 3, 4] rfl ?_
  refine g_sub (lv' := [(0, .ref (th ω k 0)), (1, .int a1), (2, .int a2), (3, .int 0), (4, .int 0)]) [2, 3, 4, 1, 0] rfl ?_
  exact b_X4_conkersBeing_5 hk h hR fu _ _ _ _ _
theorem n_X4_conkersSmashedBy_4 : ∀ w ∈ wsX40, w ∈ wsX4_conkersSmashedBy := by decide +kernel
set_option maxHeartbeats 4000000 in
set_option maxRecDepth 100000 in
theorem b_X4_conkersSmashedBy_25 {Γ : Cx} {l : Launch} {ω : Wd} {M0 : Mm} {k : Nat} (hk : kS k) (h : CxOk Γ l ⟨0, 0, 0, 0⟩ 4 ω LC cX4_conkersSmashedBy yX4_conkersSmashedBy.cls wsX4_conkersSmashedBy) (hR : RetI Γ ω LC cX4_conkersSmashedBy .int) (κ4 : Int32 → Int32 → Int32 → Tm → Option (Int32 × Tm)) (hκ4 : ∀ (b1 : Int32) (b2 : Int32) (b3 : Int32) (T : Tm), Gq 0 Γ ω LC (uM M0 k) 4 [(0, .ref (th ω k 0)), (1, .int b1), (2, .int b2), (3, .int b3)] [] T (κ4 b1 b2 b3 T)) : ∀ (b1 : Int32) (b2 : Int32) (b3 : Int32) (T : Tm), Gq 0 Γ ω LC (uM M0 k) 25 [(0, .ref (th ω k 0)), (1, .int b1), (2, .int b2), (3, .int b3)] [] T (m_X4_conkersSmashedBy_25 κ4 b1 b2 b3 T) := by
  intro b1 b2 b3 T
  unfold m_X4_conkersSmashedBy_25
  refine g_iinc h (b3 + 1) (lv' := [(3, .int (b3 + 1)), (0, .ref (th ω k 0)), (1, .int b1), (2, .int b2)]) dX4_conkersSmashedBy_25 3 rfl (congrArg (fun z => b3 + z) (by decide)) (by decide) [0, 1, 2, 3] rfl ?_
  refine g_goto h (tgt := 4) dX4_conkersSmashedBy_28 (by decide) ?_
  refine g_sub (lv' := [(0, .ref (th ω k 0)), (1, .int b1), (2, .int b2), (3, .int (b3 + 1))]) [1, 2, 3, 0] rfl ?_
  exact hκ4 _ _ _ _
set_option maxHeartbeats 4000000 in
set_option maxRecDepth 100000 in
theorem b_X4_conkersSmashedBy_4 {Γ : Cx} {l : Launch} {ω : Wd} {M0 : Mm} {k : Nat} (hk : kS k) (h : CxOk Γ l ⟨0, 0, 0, 0⟩ 4 ω LC cX4_conkersSmashedBy yX4_conkersSmashedBy.cls wsX4_conkersSmashedBy) (hR : RetI Γ ω LC cX4_conkersSmashedBy .int) : ∀ (n : Nat) (b1 : Int32) (b2 : Int32) (b3 : Int32) (T : Tm), Gq 0 Γ ω LC (uM M0 k) 4 [(0, .ref (th ω k 0)), (1, .int b1), (2, .int b2), (3, .int b3)] [] T (m_X4_conkersSmashedBy_4 n b1 b2 b3 T) := by
  intro n
  induction n with
  | zero =>
    intro b1 b2 b3 T
    rw [m_X4_conkersSmashedBy_4.eq_1]
    exact g_none
  | succ n ih =>
    intro b1 b2 b3 T
    rw [m_X4_conkersSmashedBy_4.eq_2]
    refine g_iload_n h 3 dX4_conkersSmashedBy_4 rfl rfl ?_
    refine g_aload_n h 0 dX4_conkersSmashedBy_5 rfl rfl ?_
    refine g_getI h (v := T 0 10) (uMr M0 k _ _ _) (index := 42) (j := 10) (inS hk 0 (by decide)) (C := RX4) (T := TX4) (N := 13) rfl n_X4_conkersSmashedBy_4 (by decide) rfl (by decide +kernel) dX4_conkersSmashedBy_6 ?_
    refine g_ni (fun v1 => ?_)
    refine g_icmp_ge h 31 dX4_conkersSmashedBy_9 (by decide) (fun hc2 => ?_) (fun hc2 => ?_)
    · skip
      refine g_iload_n h 2 dX4_conkersSmashedBy_31 rfl rfl ?_
      exact g_iret hR rfl dX4_conkersSmashedBy_32
    · skip
      refine g_aload_n h 0 dX4_conkersSmashedBy_12 rfl rfl ?_
      refine g_getR h (index := 39) (j := 9) (inS hk 0 (by decide)) (C := RX4) (T := TX4) (N := 13) rfl n_X4_conkersSmashedBy_4 (by decide) rfl (by decide +kernel) dX4_conkersSmashedBy_13 ?_
      refine g_iload_n h 3 dX4_conkersSmashedBy_16 rfl rfl ?_
      refine g_iald h (v := T 10 b3.toNatClampNeg) (uMr M0 k _ _ _) (inS hk 10 (by decide)) dX4_conkersSmashedBy_17 ?_
      refine g_ni (fun v3 => ?_)
      refine g_iload_n h 1 dX4_conkersSmashedBy_18 rfl rfl ?_
      refine g_icmp_ne h 25 dX4_conkersSmashedBy_19 (by decide) (fun hc4 => ?_) (fun hc4 => ?_)
      · skip
        refine g_iinc h (b2 + 1) (lv' := [(2, .int (b2 + 1)), (0, .ref (th ω k 0)), (1, .int b1), (3, .int b3)]) dX4_conkersSmashedBy_22 2 rfl (congrArg (fun z => b2 + z) (by decide)) (by decide) [0, 1, 2, 3] rfl ?_
        refine g_sub (lv' := [(0, .ref (th ω k 0)), (1, .int b1), (2, .int (b2 + 1)), (3, .int b3)]) [1, 2, 0, 3] rfl ?_
        exact b_X4_conkersSmashedBy_25 hk h hR _ ih _ _ _ _
      · skip
        exact b_X4_conkersSmashedBy_25 hk h hR _ ih _ _ _ _
set_option maxHeartbeats 4000000 in
set_option maxRecDepth 100000 in
theorem c_X4_conkersSmashedBy (l : Launch) (ω : Wd) (k : Nat) (hk : kS k) (M0 : Mm) (T : Tm) (a1 : Int32) {r : Int32} {T' : Tm} (hm : m_X4_conkersSmashedBy a1 T = some (r, T')) : MI l yX4_conkersSmashedBy wsX4_conkersSmashedBy ⟨0, 0, 0, 0⟩ ω LC [.ref (th ω k 0), .int a1] (uM M0 k T) r (uM M0 k T') := by
  refine met_i (cc := cX4_conkersSmashedBy) (maxL := 4) (ty := .int) (by decide +kernel) rfl (Nat.le_of_ble_eq_true rfl) LC_nd ?_
  intro Γ h hR ht
  suffices K : Gq 0 Γ ω LC (uM M0 k) 0 [(0, .ref (th ω k 0)), (1, .int a1)] [] T (m_X4_conkersSmashedBy a1 T) from K (r, T') hm ht (c0 Γ)
  unfold m_X4_conkersSmashedBy
  refine g_iconst h 0 dX4_conkersSmashedBy_0 (by decide) ?_
  refine g_istore_n h rfl (lv' := [(2, .int 0), (0, .ref (th ω k 0)), (1, .int a1)]) dX4_conkersSmashedBy_1 (by decide) [0, 1, 2] rfl ?_
  refine g_iconst h 0 dX4_conkersSmashedBy_2 (by decide) ?_
  refine g_istore_n h rfl (lv' := [(3, .int 0), (2, .int 0), (0, .ref (th ω k 0)), (1, .int a1)]) dX4_conkersSmashedBy_3 (by decide) [0, 1, 2, 3] rfl ?_
  refine g_sub (lv' := [(0, .ref (th ω k 0)), (1, .int a1), (2, .int 0), (3, .int 0)]) [2, 3, 1, 0] rfl ?_
  exact b_X4_conkersSmashedBy_4 hk h hR fu _ _ _ _
theorem n_X4_conkersWithHeir_4 : ∀ w ∈ wsX40, w ∈ wsX4_conkersWithHeir := by decide +kernel
set_option maxHeartbeats 4000000 in
set_option maxRecDepth 100000 in
theorem c_X4_conkersWithHeir (l : Launch) (ω : Wd) (k : Nat) (hk : kS k) (M0 : Mm) (T : Tm) {r : Int32} {T' : Tm} (hm : m_X4_conkersWithHeir T = some (r, T')) : MI l yX4_conkersWithHeir wsX4_conkersWithHeir ⟨1, 0, 0, 23⟩ ω LC [.ref (th ω k 0)] (uM M0 k T) r (uM M0 k T') := by
  refine met_i (cc := cX4_conkersWithHeir) (maxL := 1) (ty := .int) (by decide +kernel) rfl (Nat.le_of_ble_eq_true rfl) LC_nd ?_
  intro Γ h hR ht
  suffices K : Gq 0 Γ ω LC (uM M0 k) 0 [(0, .ref (th ω k 0))] [] T (m_X4_conkersWithHeir T) from K (r, T') hm ht (c0 Γ)
  unfold m_X4_conkersWithHeir
  refine g_aload_n h 0 dX4_conkersWithHeir_0 rfl rfl ?_
  refine g_getI h (v := T 0 10) (uMr M0 k _ _ _) (index := 42) (j := 10) (inS hk 0 (by decide)) (C := RX4) (T := TX4) (N := 13) rfl n_X4_conkersWithHeir_4 (by decide) rfl (by decide +kernel) dX4_conkersWithHeir_1 ?_
  refine g_ni (fun v1 => ?_)
  refine g_aload_n h 0 dX4_conkersWithHeir_4 rfl rfl ?_
  refine g_bipush h (-5) dX4_conkersWithHeir_5 (by decide) ?_
  refine g_callI h (As := [.int (-5)]) (fun t => t) (fun r t hG => c_X4_conkersSmashedBy l ω k hk M0 _ (-5) hG) (inS hk 0 (by decide)) (C := RX4) (T := TX4) (N := 13) rfl 1 rfl gX4_conkersWithHeir_X4_conkersSmashedBy rfl rfl rfl (by decide +kernel) (by decide) (st0 := _) rfl (Nat.le_of_ble_eq_true rfl) dX4_conkersWithHeir_7 (fun r2 T3 => ?_)
  refine g_isub h dX4_conkersWithHeir_10 ?_
  exact g_iret hR rfl dX4_conkersWithHeir_11
theorem n_X4_takeVictoriesOfSmashed_4 : ∀ w ∈ wsX40, w ∈ wsX4_takeVictoriesOfSmashed := by decide +kernel
set_option maxHeartbeats 4000000 in
set_option maxRecDepth 100000 in
theorem c_X4_takeVictoriesOfSmashed (l : Launch) (ω : Wd) (k : Nat) (hk : kS k) (M0 : Mm) (T : Tm) (a1 : Int32) {r : Int32} {T' : Tm} (hm : m_X4_takeVictoriesOfSmashed a1 T = some (r, T')) : MI l yX4_takeVictoriesOfSmashed wsX4_takeVictoriesOfSmashed ⟨0, 0, 0, 0⟩ ω LC [.ref (th ω k 0), .int a1] (uM M0 k T) r (uM M0 k T') := by
  refine met_i (cc := cX4_takeVictoriesOfSmashed) (maxL := 3) (ty := .int) (by decide +kernel) rfl (Nat.le_of_ble_eq_true rfl) LC_nd ?_
  intro Γ h hR ht
  suffices K : Gq 0 Γ ω LC (uM M0 k) 0 [(0, .ref (th ω k 0)), (1, .int a1)] [] T (m_X4_takeVictoriesOfSmashed a1 T) from K (r, T') hm ht (c0 Γ)
  unfold m_X4_takeVictoriesOfSmashed
  refine g_aload_n h 0 dX4_takeVictoriesOfSmashed_0 rfl rfl ?_
  refine g_getR h (index := 30) (j := 6) (inS hk 0 (by decide)) (C := RX4) (T := TX4) (N := 13) rfl n_X4_takeVictoriesOfSmashed_4 (by decide) rfl (by decide +kernel) dX4_takeVictoriesOfSmashed_1 ?_
  refine g_iload_n h 1 dX4_takeVictoriesOfSmashed_4 rfl rfl ?_
  refine g_iald h (v := T 7 a1.toNatClampNeg) (uMr M0 k _ _ _) (inS hk 7 (by decide)) dX4_takeVictoriesOfSmashed_5 ?_
  refine g_ni (fun v1 => ?_)
  refine g_istore_n h rfl (lv' := [(2, .int v1), (0, .ref (th ω k 0)), (1, .int a1)]) dX4_takeVictoriesOfSmashed_6 (by decide) [0, 1, 2] rfl ?_
  refine g_aload_n h 1 dX4_takeVictoriesOfSmashed_7 rfl rfl ?_
  refine g_getR h (index := 30) (j := 6) (inS hk 0 (by decide)) (C := RX4) (T := TX4) (N := 13) rfl n_X4_takeVictoriesOfSmashed_4 (by decide) rfl (by decide +kernel) dX4_takeVictoriesOfSmashed_8 ?_
  refine g_iload_n h 2 dX4_takeVictoriesOfSmashed_11 rfl rfl ?_
  refine g_iconst h 0 dX4_takeVictoriesOfSmashed_12 (by decide) ?_
  refine g_iast h (x' := wT T 7 a1.toNatClampNeg 0) (wM_uM M0 k _ _ _ _).symm (inS hk 7 (by decide)) dX4_takeVictoriesOfSmashed_13 ?_
  refine g_nm (fun T2 => ?_)
  refine g_aload_n h 1 dX4_takeVictoriesOfSmashed_14 rfl rfl ?_
  refine g_getR h (index := 33) (j := 7) (inS hk 0 (by decide)) (C := RX4) (T := TX4) (N := 13) rfl n_X4_takeVictoriesOfSmashed_4 (by decide) rfl (by decide +kernel) dX4_takeVictoriesOfSmashed_15 ?_
  refine g_iload_n h 2 dX4_takeVictoriesOfSmashed_18 rfl rfl ?_
  refine g_bipush h (-5) dX4_takeVictoriesOfSmashed_19 (by decide) ?_
  refine g_iast h (x' := wT T2 8 a1.toNatClampNeg (-5)) (wM_uM M0 k _ _ _ _).symm (inS hk 8 (by decide)) dX4_takeVictoriesOfSmashed_21 ?_
  refine g_nm (fun T3 => ?_)
  refine g_aload_n h 1 dX4_takeVictoriesOfSmashed_22 rfl rfl ?_
  refine g_getR h (index := 36) (j := 8) (inS hk 0 (by decide)) (C := RX4) (T := TX4) (N := 13) rfl n_X4_takeVictoriesOfSmashed_4 (by decide) rfl (by decide +kernel) dX4_takeVictoriesOfSmashed_23 ?_
  refine g_iload_n h 2 dX4_takeVictoriesOfSmashed_26 rfl rfl ?_
  refine g_iconst h 2 dX4_takeVictoriesOfSmashed_27 (by decide) ?_
  refine g_iast h (x' := wT T3 9 a1.toNatClampNeg 2) (wM_uM M0 k _ _ _ _).symm (inS hk 9 (by decide)) dX4_takeVictoriesOfSmashed_28 ?_
  refine g_nm (fun T4 => ?_)
  refine g_iload_n h 0 dX4_takeVictoriesOfSmashed_29 rfl rfl ?_
  exact g_iret hR rfl dX4_takeVictoriesOfSmashed_30
theorem n_X4_crush_4 : ∀ w ∈ wsX40, w ∈ wsX4_crush := by decide +kernel
set_option maxHeartbeats 4000000 in
set_option maxRecDepth 100000 in
theorem c_X4_crush (l : Launch) (ω : Wd) (k : Nat) (hk : kS k) (M0 : Mm) (T : Tm) (a1 : Int32) {r : Int32} {T' : Tm} (hm : m_X4_crush a1 T = some (r, T')) : MI l yX4_crush wsX4_crush ⟨1, 0, 0, 22⟩ ω LC [.ref (th ω k 0), .int a1] (uM M0 k T) r (uM M0 k T') := by
  refine met_i (cc := cX4_crush) (maxL := 3) (ty := .int) (by decide +kernel) rfl (Nat.le_of_ble_eq_true rfl) LC_nd ?_
  intro Γ h hR ht
  suffices K : Gq 0 Γ ω LC (uM M0 k) 0 [(0, .ref (th ω k 0)), (1, .int a1)] [] T (m_X4_crush a1 T) from K (r, T') hm ht (c0 Γ)
  unfold m_X4_crush
  refine g_aload_n h 0 dX4_crush_0 rfl rfl ?_
  refine g_iload_n h 1 dX4_crush_1 rfl rfl ?_
  refine g_callI h (As := [.int a1]) (fun t => t) (fun r t hG => c_X4_takeVictoriesOfSmashed l ω k hk M0 _ a1 hG) (inS hk 0 (by decide)) (C := RX4) (T := TX4) (N := 13) rfl 1 rfl gX4_crush_X4_takeVictoriesOfSmashed rfl rfl rfl (by decide +kernel) (by decide) (st0 := _) rfl (Nat.le_of_ble_eq_true rfl) dX4_crush_2 (fun r1 T2 => ?_)
  refine g_istore_n h rfl (lv' := [(2, .int r1), (0, .ref (th ω k 0)), (1, .int a1)]) dX4_crush_5 (by decide) [0, 1, 2] rfl ?_
  refine g_aload_n h 1 dX4_crush_6 rfl rfl ?_
  refine g_dup h dX4_crush_7 rfl ?_
  refine g_getI h (v := T2 0 11) (uMr M0 k _ _ _) (index := 46) (j := 11) (inS hk 0 (by decide)) (C := RX4) (T := TX4) (N := 13) rfl n_X4_crush_4 (by decide) rfl (by decide +kernel) dX4_crush_8 ?_
  refine g_ni (fun v3 => ?_)
  refine g_iload_n h 0 dX4_crush_11 rfl rfl ?_
  refine g_iadd h dX4_crush_12 ?_
  refine g_putI h (x' := wT T2 0 11 (v3 + r1)) (wM_uM M0 k _ _ _ _).symm (index := 46) (j := 11) (inS hk 0 (by decide)) (C := RX4) (T := TX4) (N := 13) rfl n_X4_crush_4 tyX4_ok nmX4 (by decide) rfl (by decide +kernel) rfl (ty := .int) (by decide +kernel) rfl rfl dX4_crush_13 ?_
  refine g_nm (fun T4 => ?_)
  refine g_iload_n h 0 dX4_crush_16 rfl rfl ?_
  exact g_iret hR rfl dX4_crush_17
theorem n_X4_fallIfWorn_4 : ∀ w ∈ wsX40, w ∈ wsX4_fallIfWorn := by decide +kernel
set_option maxHeartbeats 4000000 in
set_option maxRecDepth 100000 in
theorem c_X4_fallIfWorn (l : Launch) (ω : Wd) (k : Nat) (hk : kS k) (M0 : Mm) (T : Tm) (a1 : Int32) {r : Int32} {T' : Tm} (hm : m_X4_fallIfWorn a1 T = some (r, T')) : MV l yX4_fallIfWorn wsX4_fallIfWorn ⟨0, 0, 0, 0⟩ ω LC [.ref (th ω k 0), .int a1] (uM M0 k T) (uM M0 k T') := by
  refine met_v (cc := cX4_fallIfWorn) (maxL := 2) (r := r) (by decide +kernel) rfl (Nat.le_of_ble_eq_true rfl) LC_nd ?_
  intro Γ h hR ht
  suffices K : Gq 0 Γ ω LC (uM M0 k) 0 [(0, .ref (th ω k 0)), (1, .int a1)] [] T (m_X4_fallIfWorn a1 T) from K (r, T') hm ht (c0 Γ)
  unfold m_X4_fallIfWorn
  refine g_aload_n h 0 dX4_fallIfWorn_0 rfl rfl ?_
  refine g_getR h (index := 36) (j := 8) (inS hk 0 (by decide)) (C := RX4) (T := TX4) (N := 13) rfl n_X4_fallIfWorn_4 (by decide) rfl (by decide +kernel) dX4_fallIfWorn_1 ?_
  refine g_iload_n h 1 dX4_fallIfWorn_4 rfl rfl ?_
  refine g_iald h (v := T 9 a1.toNatClampNeg) (uMr M0 k _ _ _) (inS hk 9 (by decide)) dX4_fallIfWorn_5 ?_
  refine g_ni (fun v1 => ?_)
  refine g_if_ne h 27 dX4_fallIfWorn_6 (by decide) (fun hc2 => ?_) (fun hc2 => ?_)
  · skip
    refine g_aload_n h 0 dX4_fallIfWorn_9 rfl rfl ?_
    refine g_getR h (index := 27) (j := 5) (inS hk 0 (by decide)) (C := RX4) (T := TX4) (N := 13) rfl n_X4_fallIfWorn_4 (by decide) rfl (by decide +kernel) dX4_fallIfWorn_10 ?_
    refine g_iload_n h 1 dX4_fallIfWorn_13 rfl rfl ?_
    refine g_iald h (v := T 6 a1.toNatClampNeg) (uMr M0 k _ _ _) (inS hk 6 (by decide)) dX4_fallIfWorn_14 ?_
    refine g_ni (fun v3 => ?_)
    refine g_bipush h 20 dX4_fallIfWorn_15 (by decide) ?_
    refine g_icmp_ne h 27 dX4_fallIfWorn_17 (by decide) (fun hc4 => ?_) (fun hc4 => ?_)
    · skip
      refine g_aload_n h 0 dX4_fallIfWorn_20 rfl rfl ?_
      refine g_getR h (index := 36) (j := 8) (inS hk 0 (by decide)) (C := RX4) (T := TX4) (N := 13) rfl n_X4_fallIfWorn_4 (by decide) rfl (by decide +kernel) dX4_fallIfWorn_21 ?_
      refine g_iload_n h 1 dX4_fallIfWorn_24 rfl rfl ?_
      refine g_iconst h 1 dX4_fallIfWorn_25 (by decide) ?_
      refine g_iast h (x' := wT T 9 a1.toNatClampNeg 1) (wM_uM M0 k _ _ _ _).symm (inS hk 9 (by decide)) dX4_fallIfWorn_26 ?_
      refine g_nm (fun T5 => ?_)
      exact g_vret hR dX4_fallIfWorn_27
    · skip
      exact g_vret hR dX4_fallIfWorn_27
  · skip
    exact g_vret hR dX4_fallIfWorn_27
theorem n_X4_fallenError_4 : ∀ w ∈ wsX40, w ∈ wsX4_fallenError := by decide +kernel
set_option maxHeartbeats 4000000 in
set_option maxRecDepth 100000 in
theorem c_X4_fallenError (l : Launch) (ω : Wd) (k : Nat) (hk : kS k) (M0 : Mm) (T : Tm) (a1 : Int32) {r : Int32} {T' : Tm} (hm : m_X4_fallenError a1 T = some (r, T')) : MI l yX4_fallenError wsX4_fallenError ⟨2, 0, 0, 43⟩ ω LC [.ref (th ω k 0), .int a1] (uM M0 k T) r (uM M0 k T') := by
  refine met_i (cc := cX4_fallenError) (maxL := 2) (ty := .int) (by decide +kernel) rfl (Nat.le_of_ble_eq_true rfl) LC_nd ?_
  intro Γ h hR ht
  suffices K : Gq 0 Γ ω LC (uM M0 k) 0 [(0, .ref (th ω k 0)), (1, .int a1)] [] T (m_X4_fallenError a1 T) from K (r, T') hm ht (c0 Γ)
  unfold m_X4_fallenError
  refine g_aload_n h 0 dX4_fallenError_0 rfl rfl ?_
  refine g_iload_n h 1 dX4_fallenError_1 rfl rfl ?_
  refine g_callI h (As := [.int a1]) (fun t => t) (fun r t hG => c_X4_hasConker l ω k hk M0 _ a1 hG) (inS hk 0 (by decide)) (C := RX4) (T := TX4) (N := 13) rfl 1 rfl gX4_fallenError_X4_hasConker rfl rfl rfl (by decide +kernel) (by decide) (st0 := _) rfl (Nat.le_of_ble_eq_true rfl) dX4_fallenError_2 (fun r1 T2 => ?_)
  refine g_if_ne h 10 dX4_fallenError_5 (by decide) (fun hc3 => ?_) (fun hc3 => ?_)
  · skip
    refine g_iconst h (-1) dX4_fallenError_8 (by decide) ?_
    exact g_iret hR rfl dX4_fallenError_9
  · skip
    refine g_aload_n h 0 dX4_fallenError_10 rfl rfl ?_
    refine g_getR h (index := 36) (j := 8) (inS hk 0 (by decide)) (C := RX4) (T := TX4) (N := 13) rfl n_X4_fallenError_4 (by decide) rfl (by decide +kernel) dX4_fallenError_11 ?_
    refine g_iload_n h 1 dX4_fallenError_14 rfl rfl ?_
    refine g_iald h (v := T2 9 a1.toNatClampNeg) (uMr M0 k _ _ _) (inS hk 9 (by decide)) dX4_fallenError_15 ?_
    refine g_ni (fun v4 => ?_)
    refine g_iconst h 1 dX4_fallenError_16 (by decide) ?_
    refine g_icmp_ne h 24 dX4_fallenError_17 (by decide) (fun hc5 => ?_) (fun hc5 => ?_)
    · skip
      refine g_iconst h 0 dX4_fallenError_20 (by decide) ?_
      refine g_goto h (tgt := 26) dX4_fallenError_21 (by decide) ?_
      exact g_iret hR rfl dX4_fallenError_26
    · skip
      refine g_bipush h (-4) dX4_fallenError_24 (by decide) ?_
      exact g_iret hR rfl dX4_fallenError_26
set_option maxHeartbeats 4000000 in
set_option maxRecDepth 100000 in
theorem c_X4_quotient (l : Launch) (ω : Wd)  (M : Mm) (a0 : Int32) (a1 : Int32) {r : Int32} {M' : Mm} (hm : m_X4_quotient a0 a1 M = some (r, M')) : MI l yX4_quotient wsX4_quotient ⟨0, 0, 0, 0⟩ ω L00 [.int a0, .int a1] M r M' := by
  refine met_i (cc := cX4_quotient) (maxL := 2) (ty := .int) (by decide +kernel) rfl (Nat.le_of_ble_eq_true rfl) L00_nd ?_
  intro Γ h hR ht
  suffices K : Gq 0 Γ ω L00 eI 0 [(0, .int a0), (1, .int a1)] [] M (m_X4_quotient a0 a1 M) from K (r, M') hm ht (c0 Γ)
  unfold m_X4_quotient
  refine g_iload_n h 1 dX4_quotient_0 rfl rfl ?_
  refine g_iconst h 1 dX4_quotient_1 (by decide) ?_
  refine g_icmp_ge h 9 dX4_quotient_2 (by decide) (fun hc1 => ?_) (fun hc1 => ?_)
  · skip
    refine g_iload_n h 0 dX4_quotient_9 rfl rfl ?_
    refine g_iload_n h 1 dX4_quotient_10 rfl rfl ?_
    refine g_idiv h dX4_quotient_11 ?_
    exact g_iret hR rfl dX4_quotient_12
  · skip
    refine g_iconst h 0 dX4_quotient_5 (by decide) ?_
    refine g_goto h (tgt := 12) dX4_quotient_6 (by decide) ?_
    exact g_iret hR rfl dX4_quotient_12
theorem n_X4_inherit_4 : ∀ w ∈ wsX40, w ∈ wsX4_inherit := by decide +kernel
set_option maxHeartbeats 4000000 in
set_option maxRecDepth 100000 in
theorem c_X4_inherit (l : Launch) (ω : Wd) (k : Nat) (hk : kS k) (M0 : Mm) (T : Tm) (a1 : Int32) (a2 : Int32) {r : Int32} {T' : Tm} (hm : m_X4_inherit a1 a2 T = some (r, T')) : MV l yX4_inherit wsX4_inherit ⟨1, 0, 0, 22⟩ ω LC [.ref (th ω k 0), .int a1, .int a2] (uM M0 k T) (uM M0 k T') := by
  refine met_v (cc := cX4_inherit) (maxL := 3) (r := r) (by decide +kernel) rfl (Nat.le_of_ble_eq_true rfl) LC_nd ?_
  intro Γ h hR ht
  suffices K : Gq 0 Γ ω LC (uM M0 k) 0 [(0, .ref (th ω k 0)), (1, .int a1), (2, .int a2)] [] T (m_X4_inherit a1 a2 T) from K (r, T') hm ht (c0 Γ)
  unfold m_X4_inherit
  refine g_aload_n h 0 dX4_inherit_0 rfl rfl ?_
  refine g_getR h (index := 30) (j := 6) (inS hk 0 (by decide)) (C := RX4) (T := TX4) (N := 13) rfl n_X4_inherit_4 (by decide) rfl (by decide +kernel) dX4_inherit_1 ?_
  refine g_iload_n h 1 dX4_inherit_4 rfl rfl ?_
  refine g_dup2 h dX4_inherit_5 rfl rfl ?_
  refine g_iald h (v := T 7 a1.toNatClampNeg) (uMr M0 k _ _ _) (inS hk 7 (by decide)) dX4_inherit_6 ?_
  refine g_ni (fun v1 => ?_)
  refine g_iconst h 1 dX4_inherit_7 (by decide) ?_
  refine g_aload_n h 0 dX4_inherit_8 rfl rfl ?_
  refine g_iload_n h 2 dX4_inherit_9 rfl rfl ?_
  refine g_callI h (As := [.int a2]) (fun t => t) (fun r t hG => c_X4_takeVictoriesOfSmashed l ω k hk M0 _ a2 hG) (inS hk 0 (by decide)) (C := RX4) (T := TX4) (N := 13) rfl 1 rfl gX4_inherit_X4_takeVictoriesOfSmashed rfl rfl rfl (by decide +kernel) (by decide) (st0 := _) rfl (Nat.le_of_ble_eq_true rfl) dX4_inherit_10 (fun r2 T3 => ?_)
  refine g_iadd h dX4_inherit_13 ?_
  refine g_iadd h dX4_inherit_14 ?_
  refine g_iast h (x' := wT T3 7 a1.toNatClampNeg (v1 + (1 + r2))) (wM_uM M0 k _ _ _ _).symm (inS hk 7 (by decide)) dX4_inherit_15 ?_
  refine g_nm (fun T4 => ?_)
  refine g_aload_n h 0 dX4_inherit_16 rfl rfl ?_
  refine g_getR h (index := 39) (j := 9) (inS hk 0 (by decide)) (C := RX4) (T := TX4) (N := 13) rfl n_X4_inherit_4 (by decide) rfl (by decide +kernel) dX4_inherit_17 ?_
  refine g_iload_n h 2 dX4_inherit_20 rfl rfl ?_
  refine g_iload_n h 1 dX4_inherit_21 rfl rfl ?_
  refine g_iast h (x' := wT T4 10 a2.toNatClampNeg a1) (wM_uM M0 k _ _ _ _).symm (inS hk 10 (by decide)) dX4_inherit_22 ?_
  refine g_nm (fun T5 => ?_)
  exact g_vret hR dX4_inherit_23
theorem n_X4_settleSmashes_4 : ∀ w ∈ wsX40, w ∈ wsX4_settleSmashes := by decide +kernel
set_option maxHeartbeats 4000000 in
set_option maxRecDepth 100000 in
theorem b_X4_settleSmashes_59 {Γ : Cx} {l : Launch} {ω : Wd} {M0 : Mm} {k : Nat} (hk : kS k) (h : CxOk Γ l ⟨2, 0, 0, 44⟩ 5 ω LC cX4_settleSmashes yX4_settleSmashes.cls wsX4_settleSmashes) (hR : RetV Γ ω LC cX4_settleSmashes) : ∀ (b1 : Int32) (b2 : Int32) (b3 : Int32) (b4 : Int32) (T : Tm), Gq 0 Γ ω LC (uM M0 k) 59 [(0, .ref (th ω k 0)), (1, .int b1), (2, .int b2), (3, .int b3), (4, .int b4)] [] T (m_X4_settleSmashes_59 b1 b2 b3 b4 T) := by
  intro b1 b2 b3 b4 T
  unfold m_X4_settleSmashes_59
  refine g_iload_n h 3 dX4_settleSmashes_59 rfl rfl ?_
  refine g_if_eq h 72 dX4_settleSmashes_60 (by decide) (fun hc1 => ?_) (fun hc1 => ?_)
  · skip
    refine g_iload h 4 dX4_settleSmashes_72 rfl ?_
    refine g_if_eq h 83 dX4_settleSmashes_74 (by decide) (fun hc2 => ?_) (fun hc2 => ?_)
    · skip
      exact g_vret hR dX4_settleSmashes_83
    · skip
      refine g_aload_n h 0 dX4_settleSmashes_77 rfl rfl ?_
      refine g_iload_n h 1 dX4_settleSmashes_78 rfl rfl ?_
      refine g_iload_n h 2 dX4_settleSmashes_79 rfl rfl ?_
      refine g_callV h (As := [.int b1, .int b2]) (fun t => t) (fun r t hG => c_X4_inherit l ω k hk M0 _ b1 b2 hG) (inS hk 0 (by decide)) (C := RX4) (T := TX4) (N := 13) rfl 2 rfl gX4_settleSmashes_X4_inherit rfl rfl rfl (by decide +kernel) (by decide) (st0 := _) rfl (Nat.le_of_ble_eq_true rfl) dX4_settleSmashes_80 (fun r3 T4 => ?_)
      exact g_vret hR dX4_settleSmashes_83
  · skip
    refine g_aload_n h 0 dX4_settleSmashes_63 rfl rfl ?_
    refine g_iload_n h 2 dX4_settleSmashes_64 rfl rfl ?_
    refine g_iload_n h 1 dX4_settleSmashes_65 rfl rfl ?_
    refine g_callV h (As := [.int b2, .int b1]) (fun t => t) (fun r t hG => c_X4_inherit l ω k hk M0 _ b2 b1 hG) (inS hk 0 (by decide)) (C := RX4) (T := TX4) (N := 13) rfl 2 rfl gX4_settleSmashes_X4_inherit rfl rfl rfl (by decide +kernel) (by decide) (st0 := _) rfl (Nat.le_of_ble_eq_true rfl) dX4_settleSmashes_66 (fun r5 T6 => ?_)
    refine g_goto h (tgt := 83) dX4_settleSmashes_69 (by decide) ?_
    exact g_vret hR dX4_settleSmashes_83
set_option maxHeartbeats 4000000 in
set_option maxRecDepth 100000 in
theorem b_X4_settleSmashes_33 {Γ : Cx} {l : Launch} {ω : Wd} {M0 : Mm} {k : Nat} (hk : kS k) (h : CxOk Γ l ⟨2, 0, 0, 44⟩ 5 ω LC cX4_settleSmashes yX4_settleSmashes.cls wsX4_settleSmashes) (hR : RetV Γ ω LC cX4_settleSmashes) : ∀ (b1 : Int32) (b2 : Int32) (b3 : Int32) (s0 : Int32) (T : Tm), Gq 0 Γ ω LC (uM M0 k) 33 [(0, .ref (th ω k 0)), (1, .int b1), (2, .int b2), (3, .int b3)] [.int s0] T (m_X4_settleSmashes_33 b1 b2 b3 s0 T) := by
  intro b1 b2 b3 s0 T
  unfold m_X4_settleSmashes_33
  refine g_istore h (lv' := [(4, .int s0), (0, .ref (th ω k 0)), (1, .int b1), (2, .int b2), (3, .int b3)]) dX4_settleSmashes_33 (by decide) [0, 1, 2, 3, 4] rfl ?_
  refine g_iload_n h 4 dX4_settleSmashes_35 rfl rfl ?_
  refine g_if_eq h 59 dX4_settleSmashes_36 (by decide) (fun hc1 => ?_) (fun hc1 => ?_)
  · skip
    refine g_sub (lv' := [(0, .ref (th ω k 0)), (1, .int b1), (2, .int b2), (3, .int b3), (4, .int s0)]) [1, 2, 3, 4, 0] rfl ?_
    exact b_X4_settleSmashes_59 hk h hR _ _ _ _ _
  · skip
    refine g_iload h 0 dX4_settleSmashes_39 rfl ?_
    refine g_if_eq h 59 dX4_settleSmashes_41 (by decide) (fun hc2 => ?_) (fun hc2 => ?_)
    · skip
      refine g_sub (lv' := [(0, .ref (th ω k 0)), (1, .int b1), (2, .int b2), (3, .int b3), (4, .int s0)]) [1, 2, 3, 4, 0] rfl ?_
      exact b_X4_settleSmashes_59 hk h hR _ _ _ _ _
    · skip
      refine g_aload_n h 1 dX4_settleSmashes_44 rfl rfl ?_
      refine g_iload_n h 2 dX4_settleSmashes_45 rfl rfl ?_
      refine g_callI h (As := [.int b1]) (fun t => t) (fun r t hG => c_X4_crush l ω k hk M0 _ b1 hG) (inS hk 0 (by decide)) (C := RX4) (T := TX4) (N := 13) rfl 1 rfl gX4_settleSmashes_X4_crush rfl rfl rfl (by decide +kernel) (by decide) (st0 := _) rfl (Nat.le_of_ble_eq_true rfl) dX4_settleSmashes_46 (fun r3 T4 => ?_)
      refine g_pop h dX4_settleSmashes_49 rfl ?_
      refine g_aload_n h 1 dX4_settleSmashes_50 rfl rfl ?_
      refine g_iload_n h 3 dX4_settleSmashes_51 rfl rfl ?_
      refine g_callI h (As := [.int b2]) (fun t => t) (fun r t hG => c_X4_crush l ω k hk M0 _ b2 hG) (inS hk 0 (by decide)) (C := RX4) (T := TX4) (N := 13) rfl 1 rfl gX4_settleSmashes_X4_crush rfl rfl rfl (by decide +kernel) (by decide) (st0 := _) rfl (Nat.le_of_ble_eq_true rfl) dX4_settleSmashes_52 (fun r5 T6 => ?_)
      refine g_pop h dX4_settleSmashes_55 rfl ?_
      refine g_goto h (tgt := 83) dX4_settleSmashes_56 (by decide) ?_
      exact g_vret hR dX4_settleSmashes_83
set_option maxHeartbeats 4000000 in
set_option maxRecDepth 100000 in
theorem b_X4_settleSmashes_16 {Γ : Cx} {l : Launch} {ω : Wd} {M0 : Mm} {k : Nat} (hk : kS k) (h : CxOk Γ l ⟨2, 0, 0, 44⟩ 5 ω LC cX4_settleSmashes yX4_settleSmashes.cls wsX4_settleSmashes) (hR : RetV Γ ω LC cX4_settleSmashes) : ∀ (b1 : Int32) (b2 : Int32) (s0 : Int32) (T : Tm), Gq 0 Γ ω LC (uM M0 k) 16 [(0, .ref (th ω k 0)), (1, .int b1), (2, .int b2)] [.int s0] T (m_X4_settleSmashes_16 b1 b2 s0 T) := by
  intro b1 b2 s0 T
  unfold m_X4_settleSmashes_16
  refine g_istore_n h rfl (lv' := [(3, .int s0), (0, .ref (th ω k 0)), (1, .int b1), (2, .int b2)]) dX4_settleSmashes_16 (by decide) [0, 1, 2, 3] rfl ?_
  refine g_aload_n h 1 dX4_settleSmashes_17 rfl rfl ?_
  refine g_getR h (index := 24) (j := 4) (inS hk 0 (by decide)) (C := RX4) (T := TX4) (N := 13) rfl n_X4_settleSmashes_4 (by decide) rfl (by decide +kernel) dX4_settleSmashes_18 ?_
  refine g_iload_n h 3 dX4_settleSmashes_21 rfl rfl ?_
  refine g_iald h (v := T 5 b2.toNatClampNeg) (uMr M0 k _ _ _) (inS hk 5 (by decide)) dX4_settleSmashes_22 ?_
  refine g_ni (fun v1 => ?_)
  refine g_bipush h 100 dX4_settleSmashes_23 (by decide) ?_
  refine g_icmp_ne h 32 dX4_settleSmashes_25 (by decide) (fun hc2 => ?_) (fun hc2 => ?_)
  · skip
    refine g_iconst h 1 dX4_settleSmashes_28 (by decide) ?_
    refine g_goto h (tgt := 33) dX4_settleSmashes_29 (by decide) ?_
    refine g_sub (lv' := [(0, .ref (th ω k 0)), (1, .int b1), (2, .int b2), (3, .int s0)]) [1, 2, 3, 0] rfl ?_
    exact b_X4_settleSmashes_33 hk h hR _ _ _ _ _
  · skip
    refine g_iconst h 0 dX4_settleSmashes_32 (by decide) ?_
    refine g_sub (lv' := [(0, .ref (th ω k 0)), (1, .int b1), (2, .int b2), (3, .int s0)]) [1, 2, 3, 0] rfl ?_
    exact b_X4_settleSmashes_33 hk h hR _ _ _ _ _
set_option maxHeartbeats 4000000 in
set_option maxRecDepth 100000 in
theorem c_X4_settleSmashes (l : Launch) (ω : Wd) (k : Nat) (hk : kS k) (M0 : Mm) (T : Tm) (a1 : Int32) (a2 : Int32) {r : Int32} {T' : Tm} (hm : m_X4_settleSmashes a1 a2 T = some (r, T')) : MV l yX4_settleSmashes wsX4_settleSmashes ⟨2, 0, 0, 44⟩ ω LC [.ref (th ω k 0), .int a1, .int a2] (uM M0 k T) (uM M0 k T') := by
  refine met_v (cc := cX4_settleSmashes) (maxL := 5) (r := r) (by decide +kernel) rfl (Nat.le_of_ble_eq_true rfl) LC_nd ?_
  intro Γ h hR ht
  suffices K : Gq 0 Γ ω LC (uM M0 k) 0 [(0, .ref (th ω k 0)), (1, .int a1), (2, .int a2)] [] T (m_X4_settleSmashes a1 a2 T) from K (r, T') hm ht (c0 Γ)
  unfold m_X4_settleSmashes
  refine g_aload_n h 0 dX4_settleSmashes_0 rfl rfl ?_
  refine g_getR h (index := 24) (j := 4) (inS hk 0 (by decide)) (C := RX4) (T := TX4) (N := 13) rfl n_X4_settleSmashes_4 (by decide) rfl (by decide +kernel) dX4_settleSmashes_1 ?_
  refine g_iload_n h 1 dX4_settleSmashes_4 rfl rfl ?_
  refine g_iald h (v := T 5 a1.toNatClampNeg) (uMr M0 k _ _ _) (inS hk 5 (by decide)) dX4_settleSmashes_5 ?_
  refine g_ni (fun v1 => ?_)
  refine g_bipush h 100 dX4_settleSmashes_6 (by decide) ?_
  refine g_icmp_ne h 15 dX4_settleSmashes_8 (by decide) (fun hc2 => ?_) (fun hc2 => ?_)
  · skip
    refine g_iconst h 1 dX4_settleSmashes_11 (by decide) ?_
    refine g_goto h (tgt := 16) dX4_settleSmashes_12 (by decide) ?_
    exact b_X4_settleSmashes_16 hk h hR _ _ _ _
  · skip
    refine g_iconst h 0 dX4_settleSmashes_15 (by decide) ?_
    exact b_X4_settleSmashes_16 hk h hR _ _ _ _
theorem n_X4_outcome_4 : ∀ w ∈ wsX40, w ∈ wsX4_outcome := by decide +kernel
set_option maxHeartbeats 4000000 in
set_option maxRecDepth 100000 in
theorem c_X4_outcome (l : Launch) (ω : Wd) (k : Nat) (hk : kS k) (M0 : Mm) (T : Tm) (a1 : Int32) (a2 : Int32) (a3 : Int32) {r : Int32} {T' : Tm} (hm : m_X4_outcome a1 a2 a3 T = some (r, T')) : MI l yX4_outcome wsX4_outcome ⟨0, 0, 0, 0⟩ ω LC [.ref (th ω k 0), .int a1, .int a2, .int a3] (uM M0 k T) r (uM M0 k T') := by
  refine met_i (cc := cX4_outcome) (maxL := 4) (ty := .int) (by decide +kernel) rfl (Nat.le_of_ble_eq_true rfl) LC_nd ?_
  intro Γ h hR ht
  suffices K : Gq 0 Γ ω LC (uM M0 k) 0 [(0, .ref (th ω k 0)), (1, .int a1), (2, .int a2), (3, .int a3)] [] T (m_X4_outcome a1 a2 a3 T) from K (r, T') hm ht (c0 Γ)
  unfold m_X4_outcome
  refine g_aload_n h 0 dX4_outcome_0 rfl rfl ?_
  refine g_getR h (index := 36) (j := 8) (inS hk 0 (by decide)) (C := RX4) (T := TX4) (N := 13) rfl n_X4_outcome_4 (by decide) rfl (by decide +kernel) dX4_outcome_1 ?_
  refine g_iload_n h 1 dX4_outcome_4 rfl rfl ?_
  refine g_iald h (v := T 9 a1.toNatClampNeg) (uMr M0 k _ _ _) (inS hk 9 (by decide)) dX4_outcome_5 ?_
  refine g_ni (fun v1 => ?_)
  refine g_iconst h 2 dX4_outcome_6 (by decide) ?_
  refine g_icmp_ne h 12 dX4_outcome_7 (by decide) (fun hc2 => ?_) (fun hc2 => ?_)
  · skip
    refine g_iload_n h 2 dX4_outcome_10 rfl rfl ?_
    exact g_iret hR rfl dX4_outcome_11
  · skip
    refine g_aload_n h 0 dX4_outcome_12 rfl rfl ?_
    refine g_getR h (index := 36) (j := 8) (inS hk 0 (by decide)) (C := RX4) (T := TX4) (N := 13) rfl n_X4_outcome_4 (by decide) rfl (by decide +kernel) dX4_outcome_13 ?_
    refine g_iload_n h 1 dX4_outcome_16 rfl rfl ?_
    refine g_iald h (v := T 9 a1.toNatClampNeg) (uMr M0 k _ _ _) (inS hk 9 (by decide)) dX4_outcome_17 ?_
    refine g_ni (fun v3 => ?_)
    refine g_iconst h 1 dX4_outcome_18 (by decide) ?_
    refine g_icmp_ne h 26 dX4_outcome_19 (by decide) (fun hc4 => ?_) (fun hc4 => ?_)
    · skip
      refine g_iload_n h 3 dX4_outcome_22 rfl rfl ?_
      refine g_goto h (tgt := 27) dX4_outcome_23 (by decide) ?_
      exact g_iret hR rfl dX4_outcome_27
    · skip
      refine g_iconst h 0 dX4_outcome_26 (by decide) ?_
      exact g_iret hR rfl dX4_outcome_27
theorem n_X4_hit_4 : ∀ w ∈ wsX40, w ∈ wsX4_hit := by decide +kernel
set_option maxHeartbeats 4000000 in
set_option maxRecDepth 100000 in
theorem b_X4_hit_112 {Γ : Cx} {l : Launch} {ω : Wd} {M0 : Mm} {k : Nat} (hk : kS k) (h : CxOk Γ l ⟨3, 0, 0, 68⟩ 6 ω LC cX4_hit yX4_hit.cls wsX4_hit) (hR : RetI Γ ω LC cX4_hit .int) : ∀ (b1 : Int32) (b2 : Int32) (s1 : Int32) (s2 : Int32) (s3 : Int32) (T : Tm), Gq 0 Γ ω LC (uM M0 k) 112 [(0, .ref (th ω k 0)), (1, .int b1), (2, .int b2)] [.int s3, .int s2, .int s1, .ref (th ω k 6)] T (m_X4_hit_112 b1 b2 s1 s2 s3 T) := by
  intro b1 b2 s1 s2 s3 T
  unfold m_X4_hit_112
  refine g_iadd h dX4_hit_112 ?_
  refine g_bipush h 20 dX4_hit_113 (by decide) ?_
  refine g_min h (index := 86) (by decide +kernel) (by decide +kernel) (by decide +kernel) (by decide +kernel) (by decide) (Nat.le_of_ble_eq_true rfl) dX4_hit_115 ?_
  refine g_ni (fun v1 => ?_)
  refine g_iast h (x' := wT T 6 s1.toNatClampNeg v1) (wM_uM M0 k _ _ _ _).symm (inS hk 6 (by decide)) dX4_hit_118 ?_
  refine g_nm (fun T2 => ?_)
  refine g_aload_n h 0 dX4_hit_119 rfl rfl ?_
  refine g_getR h (index := 27) (j := 5) (inS hk 0 (by decide)) (C := RX4) (T := TX4) (N := 13) rfl n_X4_hit_4 (by decide) rfl (by decide +kernel) dX4_hit_120 ?_
  refine g_iload_n h 2 dX4_hit_123 rfl rfl ?_
  refine g_aload_n h 0 dX4_hit_124 rfl rfl ?_
  refine g_getR h (index := 27) (j := 5) (inS hk 0 (by decide)) (C := RX4) (T := TX4) (N := 13) rfl n_X4_hit_4 (by decide) rfl (by decide +kernel) dX4_hit_125 ?_
  refine g_iload_n h 2 dX4_hit_128 rfl rfl ?_
  refine g_iald h (v := T2 6 b2.toNatClampNeg) (uMr M0 k _ _ _) (inS hk 6 (by decide)) dX4_hit_129 ?_
  refine g_ni (fun v3 => ?_)
  refine g_iconst h 1 dX4_hit_130 (by decide) ?_
  refine g_iadd h dX4_hit_131 ?_
  refine g_bipush h 20 dX4_hit_132 (by decide) ?_
  refine g_min h (index := 86) (by decide +kernel) (by decide +kernel) (by decide +kernel) (by decide +kernel) (by decide) (Nat.le_of_ble_eq_true rfl) dX4_hit_134 ?_
  refine g_ni (fun v4 => ?_)
  refine g_iast h (x' := wT T2 6 b2.toNatClampNeg v4) (wM_uM M0 k _ _ _ _).symm (inS hk 6 (by decide)) dX4_hit_137 ?_
  refine g_nm (fun T5 => ?_)
  refine g_aload_n h 0 dX4_hit_138 rfl rfl ?_
  refine g_iload_n h 1 dX4_hit_139 rfl rfl ?_
  refine g_iload_n h 2 dX4_hit_140 rfl rfl ?_
  refine g_callV h (As := [.int b1, .int b2]) (fun t => t) (fun r t hG => c_X4_settleSmashes l ω k hk M0 _ b1 b2 hG) (inS hk 0 (by decide)) (C := RX4) (T := TX4) (N := 13) rfl 2 rfl gX4_hit_X4_settleSmashes rfl rfl rfl (by decide +kernel) (by decide) (st0 := _) rfl (Nat.le_of_ble_eq_true rfl) dX4_hit_141 (fun r6 T7 => ?_)
  refine g_aload_n h 0 dX4_hit_144 rfl rfl ?_
  refine g_iload_n h 1 dX4_hit_145 rfl rfl ?_
  refine g_callV h (As := [.int b1]) (fun t => t) (fun r t hG => c_X4_fallIfWorn l ω k hk M0 _ b1 hG) (inS hk 0 (by decide)) (C := RX4) (T := TX4) (N := 13) rfl 1 rfl gX4_hit_X4_fallIfWorn rfl rfl rfl (by decide +kernel) (by decide) (st0 := _) rfl (Nat.le_of_ble_eq_true rfl) dX4_hit_146 (fun r8 T9 => ?_)
  refine g_aload_n h 0 dX4_hit_149 rfl rfl ?_
  refine g_iload_n h 2 dX4_hit_150 rfl rfl ?_
  refine g_callV h (As := [.int b2]) (fun t => t) (fun r t hG => c_X4_fallIfWorn l ω k hk M0 _ b2 hG) (inS hk 0 (by decide)) (C := RX4) (T := TX4) (N := 13) rfl 1 rfl gX4_hit_X4_fallIfWorn rfl rfl rfl (by decide +kernel) (by decide) (st0 := _) rfl (Nat.le_of_ble_eq_true rfl) dX4_hit_151 (fun r10 T11 => ?_)
  refine g_aload_n h 0 dX4_hit_154 rfl rfl ?_
  refine g_iload_n h 1 dX4_hit_155 rfl rfl ?_
  refine g_iconst h 1 dX4_hit_156 (by decide) ?_
  refine g_iconst h 4 dX4_hit_157 (by decide) ?_
  refine g_callI h (As := [.int b1, .int 1, .int 4]) (fun t => t) (fun r t hG => c_X4_outcome l ω k hk M0 _ b1 1 4 hG) (inS hk 0 (by decide)) (C := RX4) (T := TX4) (N := 13) rfl 3 rfl gX4_hit_X4_outcome rfl rfl rfl (by decide +kernel) (by decide) (st0 := _) rfl (Nat.le_of_ble_eq_true rfl) dX4_hit_158 (fun r12 T13 => ?_)
  refine g_aload_n h 0 dX4_hit_161 rfl rfl ?_
  refine g_iload_n h 2 dX4_hit_162 rfl rfl ?_
  refine g_iconst h 2 dX4_hit_163 (by decide) ?_
  refine g_bipush h 8 dX4_hit_164 (by decide) ?_
  refine g_callI h (As := [.int b2, .int 2, .int 8]) (fun t => t) (fun r t hG => c_X4_outcome l ω k hk M0 _ b2 2 8 hG) (inS hk 0 (by decide)) (C := RX4) (T := TX4) (N := 13) rfl 3 rfl gX4_hit_X4_outcome rfl rfl rfl (by decide +kernel) (by decide) (st0 := _) rfl (Nat.le_of_ble_eq_true rfl) dX4_hit_166 (fun r14 T15 => ?_)
  refine g_iadd h dX4_hit_169 ?_
  exact g_iret hR rfl dX4_hit_170
set_option maxHeartbeats 4000000 in
set_option maxRecDepth 100000 in
theorem c_X4_hit (l : Launch) (ω : Wd) (k : Nat) (hk : kS k) (M0 : Mm) (T : Tm) (a1 : Int32) (a2 : Int32) (a3 : Int32) {r : Int32} {T' : Tm} (hm : m_X4_hit a1 a2 a3 T = some (r, T')) : MI l yX4_hit wsX4_hit ⟨3, 0, 0, 68⟩ ω LC [.ref (th ω k 0), .int a1, .int a2, .int a3] (uM M0 k T) r (uM M0 k T') := by
  refine met_i (cc := cX4_hit) (maxL := 6) (ty := .int) (by decide +kernel) rfl (Nat.le_of_ble_eq_true rfl) LC_nd ?_
  intro Γ h hR ht
  suffices K : Gq 0 Γ ω LC (uM M0 k) 0 [(0, .ref (th ω k 0)), (1, .int a1), (2, .int a2), (3, .int a3)] [] T (m_X4_hit a1 a2 a3 T) from K (r, T') hm ht (c0 Γ)
  unfold m_X4_hit
  refine g_iload_n h 3 dX4_hit_0 rfl rfl ?_
  refine g_aload_n h 0 dX4_hit_1 rfl rfl ?_
  refine g_getR h (index := 21) (j := 3) (inS hk 0 (by decide)) (C := RX4) (T := TX4) (N := 13) rfl n_X4_hit_4 (by decide) rfl (by decide +kernel) dX4_hit_2 ?_
  refine g_iload_n h 1 dX4_hit_5 rfl rfl ?_
  refine g_iald h (v := T 4 a1.toNatClampNeg) (uMr M0 k _ _ _) (inS hk 4 (by decide)) dX4_hit_6 ?_
  refine g_ni (fun v1 => ?_)
  refine g_imul h dX4_hit_7 ?_
  refine g_aload_n h 0 dX4_hit_8 rfl rfl ?_
  refine g_getR h (index := 21) (j := 3) (inS hk 0 (by decide)) (C := RX4) (T := TX4) (N := 13) rfl n_X4_hit_4 (by decide) rfl (by decide +kernel) dX4_hit_9 ?_
  refine g_iload_n h 2 dX4_hit_12 rfl rfl ?_
  refine g_iald h (v := T 4 a2.toNatClampNeg) (uMr M0 k _ _ _) (inS hk 4 (by decide)) dX4_hit_13 ?_
  refine g_ni (fun v2 => ?_)
  refine g_callP h (As := [.int (a3 * v1), .int v2]) (fun r t hG => c_X4_quotient l ω M00 (a3 * v1) v2 hG) 2 rfl gX4_hit_X4_quotient rfl rfl rfl (by decide +kernel) (by decide) (st0 := _) rfl (Nat.le_of_ble_eq_true rfl) dX4_hit_14 (fun r3 => ?_)
  refine g_istore h (lv' := [(4, .int r3), (0, .ref (th ω k 0)), (1, .int a1), (2, .int a2), (3, .int a3)]) dX4_hit_17 (by decide) [0, 1, 2, 3, 4] rfl ?_
  refine g_iload_n h 4 dX4_hit_19 rfl rfl ?_
  refine g_aload_n h 1 dX4_hit_20 rfl rfl ?_
  refine g_getR h (index := 21) (j := 3) (inS hk 0 (by decide)) (C := RX4) (T := TX4) (N := 13) rfl n_X4_hit_4 (by decide) rfl (by decide +kernel) dX4_hit_21 ?_
  refine g_iload_n h 3 dX4_hit_24 rfl rfl ?_
  refine g_iald h (v := T 4 a2.toNatClampNeg) (uMr M0 k _ _ _) (inS hk 4 (by decide)) dX4_hit_25 ?_
  refine g_ni (fun v4 => ?_)
  refine g_imul h dX4_hit_26 ?_
  refine g_iconst h 2 dX4_hit_27 (by decide) ?_
  refine g_aload_n h 1 dX4_hit_28 rfl rfl ?_
  refine g_getR h (index := 21) (j := 3) (inS hk 0 (by decide)) (C := RX4) (T := TX4) (N := 13) rfl n_X4_hit_4 (by decide) rfl (by decide +kernel) dX4_hit_29 ?_
  refine g_iload_n h 2 dX4_hit_32 rfl rfl ?_
  refine g_iald h (v := T 4 a1.toNatClampNeg) (uMr M0 k _ _ _) (inS hk 4 (by decide)) dX4_hit_33 ?_
  refine g_ni (fun v5 => ?_)
  refine g_imul h dX4_hit_34 ?_
  refine g_callP h (As := [.int (a3 * v4), .int (2 * v5)]) (fun r t hG => c_X4_quotient l ω M00 (a3 * v4) (2 * v5) hG) 2 rfl gX4_hit_X4_quotient rfl rfl rfl (by decide +kernel) (by decide) (st0 := _) rfl (Nat.le_of_ble_eq_true rfl) dX4_hit_35 (fun r6 => ?_)
  refine g_istore h (lv' := [(5, .int r6), (4, .int r3), (0, .ref (th ω k 0)), (1, .int a1), (2, .int a2), (3, .int a3)]) dX4_hit_38 (by decide) [0, 1, 2, 3, 4, 5] rfl ?_
  refine g_aload_n h 2 dX4_hit_40 rfl rfl ?_
  refine g_dup h dX4_hit_41 rfl ?_
  refine g_getI h (v := T 0 12) (uMr M0 k _ _ _) (index := 49) (j := 12) (inS hk 0 (by decide)) (C := RX4) (T := TX4) (N := 13) rfl n_X4_hit_4 (by decide) rfl (by decide +kernel) dX4_hit_42 ?_
  refine g_ni (fun v7 => ?_)
  refine g_iconst h 1 dX4_hit_45 (by decide) ?_
  refine g_iadd h dX4_hit_46 ?_
  refine g_putI h (x' := wT T 0 12 (v7 + 1)) (wM_uM M0 k _ _ _ _).symm (index := 49) (j := 12) (inS hk 0 (by decide)) (C := RX4) (T := TX4) (N := 13) rfl n_X4_hit_4 tyX4_ok nmX4 (by decide) rfl (by decide +kernel) rfl (ty := .int) (by decide +kernel) rfl rfl dX4_hit_47 ?_
  refine g_nm (fun T8 => ?_)
  refine g_aload_n h 2 dX4_hit_50 rfl rfl ?_
  refine g_getR h (index := 24) (j := 4) (inS hk 0 (by decide)) (C := RX4) (T := TX4) (N := 13) rfl n_X4_hit_4 (by decide) rfl (by decide +kernel) dX4_hit_51 ?_
  refine g_iload_n h 4 dX4_hit_54 rfl rfl ?_
  refine g_aload_n h 2 dX4_hit_55 rfl rfl ?_
  refine g_getR h (index := 24) (j := 4) (inS hk 0 (by decide)) (C := RX4) (T := TX4) (N := 13) rfl n_X4_hit_4 (by decide) rfl (by decide +kernel) dX4_hit_56 ?_
  refine g_iload_n h 4 dX4_hit_59 rfl rfl ?_
  refine g_iald h (v := T8 5 a2.toNatClampNeg) (uMr M0 k _ _ _) (inS hk 5 (by decide)) dX4_hit_60 ?_
  refine g_ni (fun v9 => ?_)
  refine g_iload h 1 dX4_hit_61 rfl ?_
  refine g_iadd h dX4_hit_63 ?_
  refine g_bipush h 100 dX4_hit_64 (by decide) ?_
  refine g_min h (index := 86) (by decide +kernel) (by decide +kernel) (by decide +kernel) (by decide +kernel) (by decide) (Nat.le_of_ble_eq_true rfl) dX4_hit_66 ?_
  refine g_ni (fun v10 => ?_)
  refine g_iast h (x' := wT T8 5 a2.toNatClampNeg v10) (wM_uM M0 k _ _ _ _).symm (inS hk 5 (by decide)) dX4_hit_69 ?_
  refine g_nm (fun T11 => ?_)
  refine g_aload_n h 2 dX4_hit_70 rfl rfl ?_
  refine g_getR h (index := 24) (j := 4) (inS hk 0 (by decide)) (C := RX4) (T := TX4) (N := 13) rfl n_X4_hit_4 (by decide) rfl (by decide +kernel) dX4_hit_71 ?_
  refine g_iload_n h 3 dX4_hit_74 rfl rfl ?_
  refine g_aload_n h 2 dX4_hit_75 rfl rfl ?_
  refine g_getR h (index := 24) (j := 4) (inS hk 0 (by decide)) (C := RX4) (T := TX4) (N := 13) rfl n_X4_hit_4 (by decide) rfl (by decide +kernel) dX4_hit_76 ?_
  refine g_iload_n h 3 dX4_hit_79 rfl rfl ?_
  refine g_iald h (v := T11 5 a1.toNatClampNeg) (uMr M0 k _ _ _) (inS hk 5 (by decide)) dX4_hit_80 ?_
  refine g_ni (fun v12 => ?_)
  refine g_iload h 0 dX4_hit_81 rfl ?_
  refine g_iadd h dX4_hit_83 ?_
  refine g_bipush h 100 dX4_hit_84 (by decide) ?_
  refine g_min h (index := 86) (by decide +kernel) (by decide +kernel) (by decide +kernel) (by decide +kernel) (by decide) (Nat.le_of_ble_eq_true rfl) dX4_hit_86 ?_
  refine g_ni (fun v13 => ?_)
  refine g_iast h (x' := wT T11 5 a1.toNatClampNeg v13) (wM_uM M0 k _ _ _ _).symm (inS hk 5 (by decide)) dX4_hit_89 ?_
  refine g_nm (fun T14 => ?_)
  refine g_aload_n h 2 dX4_hit_90 rfl rfl ?_
  refine g_getR h (index := 27) (j := 5) (inS hk 0 (by decide)) (C := RX4) (T := TX4) (N := 13) rfl n_X4_hit_4 (by decide) rfl (by decide +kernel) dX4_hit_91 ?_
  refine g_iload_n h 3 dX4_hit_94 rfl rfl ?_
  refine g_aload_n h 2 dX4_hit_95 rfl rfl ?_
  refine g_getR h (index := 27) (j := 5) (inS hk 0 (by decide)) (C := RX4) (T := TX4) (N := 13) rfl n_X4_hit_4 (by decide) rfl (by decide +kernel) dX4_hit_96 ?_
  refine g_iload_n h 3 dX4_hit_99 rfl rfl ?_
  refine g_iald h (v := T14 6 a1.toNatClampNeg) (uMr M0 k _ _ _) (inS hk 6 (by decide)) dX4_hit_100 ?_
  refine g_ni (fun v15 => ?_)
  refine g_iload_n h 5 dX4_hit_101 rfl rfl ?_
  refine g_bipush h 6 dX4_hit_102 (by decide) ?_
  refine g_icmp_le h 111 dX4_hit_104 (by decide) (fun hc16 => ?_) (fun hc16 => ?_)
  · skip
    refine g_iconst h 1 dX4_hit_111 (by decide) ?_
    refine g_sub (lv' := [(0, .ref (th ω k 0)), (1, .int a1), (2, .int a2)]) [2, 3, 4] rfl ?_
    exact b_X4_hit_112 hk h hR _ _ _ _ _ _
  · skip
    refine g_iconst h 2 dX4_hit_107 (by decide) ?_
    refine g_goto h (tgt := 112) dX4_hit_108 (by decide) ?_
    refine g_sub (lv' := [(0, .ref (th ω k 0)), (1, .int a1), (2, .int a2)]) [2, 3, 4] rfl ?_
    exact b_X4_hit_112 hk h hR _ _ _ _ _ _
set_option maxHeartbeats 4000000 in
set_option maxRecDepth 100000 in
theorem b_X4_fight_66 {Γ : Cx} {l : Launch} {ω : Wd} {k : Nat} (hk : kS k) (h : CxOk Γ l ⟨4, 0, 0, 93⟩ 8 ω LC cX4_fight yX4_fight.cls wsX4_fight) (hR : RetI Γ ω LC cX4_fight .int) : ∀ (b6 : Int32) (M : Mm), Gq 0 Γ ω LC eI 66 [(6, .int b6)] [] M (m_X4_fight_66 k b6 M) := by
  intro b6 M
  unfold m_X4_fight_66
  refine g_iload h 0 dX4_fight_66 rfl ?_
  exact g_iret hR rfl dX4_fight_68
set_option maxHeartbeats 4000000 in
set_option maxRecDepth 100000 in
theorem b_X4_fight_17 {Γ : Cx} {l : Launch} {ω : Wd} {k : Nat} (hk : kS k) (h : CxOk Γ l ⟨4, 0, 0, 93⟩ 8 ω LC cX4_fight yX4_fight.cls wsX4_fight) (hR : RetI Γ ω LC cX4_fight .int) : ∀ (n : Nat) (b4 : Int32) (b5 : Int32) (b6 : Int32) (M : Mm), Gq 0 Γ ω LC eI 17 [(0, .ref (th ω k 0)), (3, .ref (th ω 10 0)), (4, .int b4), (5, .int b5), (6, .int b6)] [] M (m_X4_fight_17 k n b4 b5 b6 M) := by
  intro n
  induction n with
  | zero =>
    intro b4 b5 b6 M
    rw [m_X4_fight_17.eq_1]
    exact g_none
  | succ n ih =>
    intro b4 b5 b6 M
    rw [m_X4_fight_17.eq_2]
    refine g_iload h 4 dX4_fight_17 rfl ?_
    refine g_bipush h 20 dX4_fight_19 (by decide) ?_
    refine g_icmp_ge h 66 dX4_fight_21 (by decide) (fun hc1 => ?_) (fun hc1 => ?_)
    · skip
      refine g_sub (lv' := [(6, .int b6)]) [4] rfl ?_
      exact b_X4_fight_66 hk h hR _ _
    · skip
      refine g_aload_n h 0 dX4_fight_24 rfl rfl ?_
      refine g_iload h 2 dX4_fight_25 rfl ?_
      refine g_iload h 3 dX4_fight_27 rfl ?_
      refine g_callI h (As := [.int b4, .int b5]) (fun t => uM M k t) (fun r t hG => MI_self (c_X4_areInPlay l ω k hk M _ b4 b5 hG)) (inS hk 0 (by decide)) (C := RX4) (T := TX4) (N := 13) rfl 2 rfl gX4_fight_X4_areInPlay rfl rfl rfl (by decide +kernel) (by decide) (st0 := _) rfl (Nat.le_of_ble_eq_true rfl) dX4_fight_29 (fun r2 M3 => ?_)
      refine g_nm (fun M4 => ?_)
      refine g_if_eq h 66 dX4_fight_32 (by decide) (fun hc5 => ?_) (fun hc5 => ?_)
      · skip
        refine g_sub (lv' := [(6, .int b6)]) [4] rfl ?_
        exact b_X4_fight_66 hk h hR _ _
      · skip
        refine g_aload_n h 0 dX4_fight_35 rfl rfl ?_
        refine g_iload h 2 dX4_fight_36 rfl ?_
        refine g_iload h 3 dX4_fight_38 rfl ?_
        refine g_aload_n h 1 dX4_fight_40 rfl rfl ?_
        refine g_callI h (As := []) (fun t => uM M4 10 t) (fun r t hG => MI_self (c_X0_swing l ω M4 _ hG)) iC_10_0 (C := RX0) (T := TX0) (N := 1) rfl 0 rfl gX4_fight_X0_swing rfl rfl rfl (by decide +kernel) (by decide) (st0 := _) rfl (Nat.le_of_ble_eq_true rfl) dX4_fight_41 (fun r6 M7 => ?_)
        refine g_nm (fun M8 => ?_)
        refine g_callI h (As := [.int b4, .int b5, .int r6]) (fun t => uM M8 k t) (fun r t hG => MI_self (c_X4_hit l ω k hk M8 _ b4 b5 r6 hG)) (inS hk 0 (by decide)) (C := RX4) (T := TX4) (N := 13) rfl 3 rfl gX4_fight_X4_hit rfl rfl rfl (by decide +kernel) (by decide) (st0 := _) rfl (Nat.le_of_ble_eq_true rfl) dX4_fight_44 (fun r9 M10 => ?_)
        refine g_nm (fun M11 => ?_)
        refine g_pop h dX4_fight_47 rfl ?_
        refine g_iload h 3 dX4_fight_48 rfl ?_
        refine g_istore h (lv' := [(7, .int b5), (0, .ref (th ω k 0)), (3, .ref (th ω 10 0)), (4, .int b4), (5, .int b5), (6, .int b6)]) dX4_fight_50 (by decide) [0, 1, 2, 3, 4, 5] rfl ?_
        refine g_iload h 3 dX4_fight_52 rfl ?_
        refine g_istore h (lv' := [(5, .int b4), (7, .int b5), (0, .ref (th ω k 0)), (3, .ref (th ω 10 0)), (4, .int b4), (6, .int b6)]) dX4_fight_54 (by decide) [0, 1, 2, 3, 4, 5] rfl ?_
        refine g_iload h 1 dX4_fight_56 rfl ?_
        refine g_istore h (lv' := [(4, .int b5), (5, .int b4), (7, .int b5), (0, .ref (th ω k 0)), (3, .ref (th ω 10 0)), (6, .int b6)]) dX4_fight_58 (by decide) [0, 1, 2, 3, 4, 5] rfl ?_
        refine g_iinc h (b6 + 1) (lv' := [(6, .int (b6 + 1)), (4, .int b5), (5, .int b4), (7, .int b5), (0, .ref (th ω k 0)), (3, .ref (th ω 10 0))]) dX4_fight_60 5 rfl (congrArg (fun z => b6 + z) (by decide)) (by decide) [0, 1, 2, 3, 4, 5] rfl ?_
        refine g_goto h (tgt := 17) dX4_fight_63 (by decide) ?_
        refine g_sub (lv' := [(0, .ref (th ω k 0)), (3, .ref (th ω 10 0)), (4, .int b5), (5, .int b4), (6, .int (b6 + 1))]) [4, 5, 1, 2, 0] rfl ?_
        exact ih _ _ _ _
set_option maxHeartbeats 4000000 in
set_option maxRecDepth 100000 in
theorem c_X4_fight (l : Launch) (ω : Wd) (k : Nat) (hk : kS k) (M : Mm) (a1 : Int32) (a2 : Int32) {r : Int32} {M' : Mm} (hm : m_X4_fight k a1 a2 M = some (r, M')) : MI l yX4_fight wsX4_fight ⟨4, 0, 0, 93⟩ ω LC [.ref (th ω k 0), .int a1, .int a2, .ref (th ω 10 0)] M r M' := by
  refine met_i (cc := cX4_fight) (maxL := 8) (ty := .int) (by decide +kernel) rfl (Nat.le_of_ble_eq_true rfl) LC_nd ?_
  intro Γ h hR ht
  suffices K : Gq 0 Γ ω LC eI 0 [(0, .ref (th ω k 0)), (1, .int a1), (2, .int a2), (3, .ref (th ω 10 0))] [] M (m_X4_fight k a1 a2 M) from K (r, M') hm ht (c0 Γ)
  unfold m_X4_fight
  refine g_iload_n h 1 dX4_fight_0 rfl rfl ?_
  refine g_iload_n h 2 dX4_fight_1 rfl rfl ?_
  refine g_min h (index := 86) (by decide +kernel) (by decide +kernel) (by decide +kernel) (by decide +kernel) (by decide) (Nat.le_of_ble_eq_true rfl) dX4_fight_2 ?_
  refine g_ni (fun v1 => ?_)
  refine g_istore h (lv' := [(4, .int v1), (0, .ref (th ω k 0)), (1, .int a1), (2, .int a2), (3, .ref (th ω 10 0))]) dX4_fight_5 (by decide) [0, 1, 2, 3, 4] rfl ?_
  refine g_iload_n h 2 dX4_fight_7 rfl rfl ?_
  refine g_iload_n h 3 dX4_fight_8 rfl rfl ?_
  refine g_max h (index := 103) (by decide +kernel) (by decide +kernel) (by decide +kernel) (by decide +kernel) (by decide) (Nat.le_of_ble_eq_true rfl) dX4_fight_9 ?_
  refine g_ni (fun v2 => ?_)
  refine g_istore h (lv' := [(5, .int v2), (4, .int v1), (0, .ref (th ω k 0)), (1, .int a1), (2, .int a2), (3, .ref (th ω 10 0))]) dX4_fight_12 (by decide) [0, 1, 2, 3, 4, 5] rfl ?_
  refine g_iconst h 0 dX4_fight_14 (by decide) ?_
  refine g_istore h (lv' := [(6, .int 0), (5, .int v2), (4, .int v1), (0, .ref (th ω k 0)), (1, .int a1), (2, .int a2), (3, .ref (th ω 10 0))]) dX4_fight_15 (by decide) [0, 1, 2, 3, 4, 5, 6] rfl ?_
  refine g_sub (lv' := [(0, .ref (th ω k 0)), (3, .ref (th ω 10 0)), (4, .int v1), (5, .int v2), (6, .int 0)]) [3, 6, 2, 1, 0] rfl ?_
  exact b_X4_fight_17 hk h hR fu _ _ _ _
theorem n_X4_isInLineOf_4 : ∀ w ∈ wsX40, w ∈ wsX4_isInLineOf := by decide +kernel
set_option maxHeartbeats 4000000 in
set_option maxRecDepth 100000 in
theorem b_X4_isInLineOf_10 {Γ : Cx} {l : Launch} {ω : Wd} {M0 : Mm} {k : Nat} (hk : kS k) (h : CxOk Γ l ⟨2, 0, 0, 43⟩ 5 ω LC cX4_isInLineOf yX4_isInLineOf.cls wsX4_isInLineOf) (hR : RetI Γ ω LC cX4_isInLineOf .boolean) : ∀ (n : Nat) (b2 : Int32) (b3 : Int32) (b4 : Int32) (T : Tm), Gq 0 Γ ω LC (uM M0 k) 10 [(0, .ref (th ω k 0)), (2, .int b2), (3, .int b3), (4, .int b4)] [] T (m_X4_isInLineOf_10 n b2 b3 b4 T) := by
  intro n
  induction n with
  | zero =>
    intro b2 b3 b4 T
    rw [m_X4_isInLineOf_10.eq_1]
    exact g_none
  | succ n ih =>
    intro b2 b3 b4 T
    rw [m_X4_isInLineOf_10.eq_2]
    refine g_iload h 3 dX4_isInLineOf_10 rfl ?_
    refine g_aload_n h 0 dX4_isInLineOf_12 rfl rfl ?_
    refine g_getI h (v := T 0 10) (uMr M0 k _ _ _) (index := 42) (j := 10) (inS hk 0 (by decide)) (C := RX4) (T := TX4) (N := 13) rfl n_X4_isInLineOf_4 (by decide) rfl (by decide +kernel) dX4_isInLineOf_13 ?_
    refine g_ni (fun v1 => ?_)
    refine g_icmp_ge h 47 dX4_isInLineOf_16 (by decide) (fun hc2 => ?_) (fun hc2 => ?_)
    · skip
      refine g_iconst h 0 dX4_isInLineOf_47 (by decide) ?_
      exact g_iret hR (by decide) dX4_isInLineOf_48
    · skip
      refine g_aload_n h 0 dX4_isInLineOf_19 rfl rfl ?_
      refine g_iload_n h 2 dX4_isInLineOf_20 rfl rfl ?_
      refine g_callI h (As := [.int b3]) (fun t => t) (fun r t hG => c_X4_hasConker l ω k hk M0 _ b3 hG) (inS hk 0 (by decide)) (C := RX4) (T := TX4) (N := 13) rfl 1 rfl gX4_isInLineOf_X4_hasConker rfl rfl rfl (by decide +kernel) (by decide) (st0 := _) rfl (Nat.le_of_ble_eq_true rfl) dX4_isInLineOf_21 (fun r3 T4 => ?_)
      refine g_if_eq h 47 dX4_isInLineOf_24 (by decide) (fun hc5 => ?_) (fun hc5 => ?_)
      · skip
        refine g_iconst h 0 dX4_isInLineOf_47 (by decide) ?_
        exact g_iret hR (by decide) dX4_isInLineOf_48
      · skip
        refine g_iload_n h 2 dX4_isInLineOf_27 rfl rfl ?_
        refine g_iload_n h 1 dX4_isInLineOf_28 rfl rfl ?_
        refine g_icmp_ne h 34 dX4_isInLineOf_29 (by decide) (fun hc6 => ?_) (fun hc6 => ?_)
        · skip
          refine g_iconst h 1 dX4_isInLineOf_32 (by decide) ?_
          exact g_iret hR (by decide) dX4_isInLineOf_33
        · skip
          refine g_aload_n h 0 dX4_isInLineOf_34 rfl rfl ?_
          refine g_getR h (index := 39) (j := 9) (inS hk 0 (by decide)) (C := RX4) (T := TX4) (N := 13) rfl n_X4_isInLineOf_4 (by decide) rfl (by decide +kernel) dX4_isInLineOf_35 ?_
          refine g_iload_n h 2 dX4_isInLineOf_38 rfl rfl ?_
          refine g_iald h (v := T4 10 b3.toNatClampNeg) (uMr M0 k _ _ _) (inS hk 10 (by decide)) dX4_isInLineOf_39 ?_
          refine g_ni (fun v7 => ?_)
          refine g_istore_n h rfl (lv' := [(3, .int v7), (0, .ref (th ω k 0)), (2, .int b2), (4, .int b4)]) dX4_isInLineOf_40 (by decide) [0, 1, 2, 3] rfl ?_
          refine g_iinc h (b4 + 1) (lv' := [(4, .int (b4 + 1)), (3, .int v7), (0, .ref (th ω k 0)), (2, .int b2)]) dX4_isInLineOf_41 3 rfl (congrArg (fun z => b4 + z) (by decide)) (by decide) [0, 1, 2, 3] rfl ?_
          refine g_goto h (tgt := 10) dX4_isInLineOf_44 (by decide) ?_
          refine g_sub (lv' := [(0, .ref (th ω k 0)), (2, .int b2), (3, .int v7), (4, .int (b4 + 1))]) [2, 3, 1, 0] rfl ?_
          exact ih _ _ _ _
set_option maxHeartbeats 4000000 in
set_option maxRecDepth 100000 in
theorem c_X4_isInLineOf (l : Launch) (ω : Wd) (k : Nat) (hk : kS k) (M0 : Mm) (T : Tm) (a1 : Int32) (a2 : Int32) {r : Int32} {T' : Tm} (hm : m_X4_isInLineOf a1 a2 T = some (r, T')) : MI l yX4_isInLineOf wsX4_isInLineOf ⟨2, 0, 0, 43⟩ ω LC [.ref (th ω k 0), .int a1, .int a2] (uM M0 k T) r (uM M0 k T') := by
  refine met_i (cc := cX4_isInLineOf) (maxL := 5) (ty := .boolean) (by decide +kernel) rfl (Nat.le_of_ble_eq_true rfl) LC_nd ?_
  intro Γ h hR ht
  suffices K : Gq 0 Γ ω LC (uM M0 k) 0 [(0, .ref (th ω k 0)), (1, .int a1), (2, .int a2)] [] T (m_X4_isInLineOf a1 a2 T) from K (r, T') hm ht (c0 Γ)
  unfold m_X4_isInLineOf
  refine g_aload_n h 0 dX4_isInLineOf_0 rfl rfl ?_
  refine g_getR h (index := 39) (j := 9) (inS hk 0 (by decide)) (C := RX4) (T := TX4) (N := 13) rfl n_X4_isInLineOf_4 (by decide) rfl (by decide +kernel) dX4_isInLineOf_1 ?_
  refine g_iload_n h 1 dX4_isInLineOf_4 rfl rfl ?_
  refine g_iald h (v := T 10 a1.toNatClampNeg) (uMr M0 k _ _ _) (inS hk 10 (by decide)) dX4_isInLineOf_5 ?_
  refine g_ni (fun v1 => ?_)
  refine g_istore_n h rfl (lv' := [(3, .int v1), (0, .ref (th ω k 0)), (1, .int a1), (2, .int a2)]) dX4_isInLineOf_6 (by decide) [0, 1, 2, 3] rfl ?_
  refine g_iconst h 0 dX4_isInLineOf_7 (by decide) ?_
  refine g_istore h (lv' := [(4, .int 0), (3, .int v1), (0, .ref (th ω k 0)), (1, .int a1), (2, .int a2)]) dX4_isInLineOf_8 (by decide) [0, 1, 2, 3, 4] rfl ?_
  refine g_sub (lv' := [(0, .ref (th ω k 0)), (2, .int a2), (3, .int v1), (4, .int 0)]) [2, 4, 1, 0] rfl ?_
  exact b_X4_isInLineOf_10 hk h hR fu _ _ _ _
