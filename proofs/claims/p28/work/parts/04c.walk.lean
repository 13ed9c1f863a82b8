/-! WALKS (written by wip/whole/gen.py): X4_lengthOfLine, X4_mendError, X4_settleBoast, X4_strikeError, X4_threadAgain, X4_victoriesOf, X5_boast, X5_bout, X5_conker, X5_count, X5_isPlayer, X5_doubt, X5_give, X5_tryHit, X5_ifStruck, X5_leastSwing, X5_line, X5_mend, X5_player -/
theorem n_X4_lengthOfLine_4 : ∀ w ∈ wsX40, w ∈ wsX4_lengthOfLine := by decide +kernel
set_option maxHeartbeats 4000000 in
set_option maxRecDepth 100000 in
theorem b_X4_lengthOfLine_24 {Γ : Cx} {l : Launch} {ω : Wd} {M0 : Mm} {k : Nat} (hk : kS k) (h : CxOk Γ l ⟨3, 0, 0, 67⟩ 4 ω LC cX4_lengthOfLine yX4_lengthOfLine.cls wsX4_lengthOfLine) (hR : RetI Γ ω LC cX4_lengthOfLine .int) (κ4 : Int32 → Int32 → Int32 → Tm → Option (Int32 × Tm)) (hκ4 : ∀ (b1 : Int32) (b2 : Int32) (b3 : Int32) (T : Tm), Gq 0 Γ ω LC (uM M0 k) 4 [(0, .ref (th ω k 0)), (1, .int b1), (2, .int b2), (3, .int b3)] [] T (κ4 b1 b2 b3 T)) : ∀ (b1 : Int32) (b2 : Int32) (b3 : Int32) (T : Tm), Gq 0 Γ ω LC (uM M0 k) 24 [(0, .ref (th ω k 0)), (1, .int b1), (2, .int b2), (3, .int b3)] [] T (m_X4_lengthOfLine_24 κ4 b1 b2 b3 T) := by
  intro b1 b2 b3 T
  unfold m_X4_lengthOfLine_24
  refine g_iinc h (b3 + 1) (lv' := [(3, .int (b3 + 1)), (0, .ref (th ω k 0)), (1, .int b1), (2, .int b2)]) dX4_lengthOfLine_24 3 rfl (congrArg (fun z => b3 + z) (by decide)) (by decide) [0, 1, 2, 3] rfl ?_
  refine g_goto h (tgt := 4) dX4_lengthOfLine_27 (by decide) ?_
  refine g_sub (lv' := [(0, .ref (th ω k 0)), (1, .int b1), (2, .int b2), (3, .int (b3 + 1))]) [1, 2, 3, 0] rfl ?_
  exact hκ4 _ _ _ _
set_option maxHeartbeats 4000000 in
set_option maxRecDepth 100000 in
theorem b_X4_lengthOfLine_4 {Γ : Cx} {l : Launch} {ω : Wd} {M0 : Mm} {k : Nat} (hk : kS k) (h : CxOk Γ l ⟨3, 0, 0, 67⟩ 4 ω LC cX4_lengthOfLine yX4_lengthOfLine.cls wsX4_lengthOfLine) (hR : RetI Γ ω LC cX4_lengthOfLine .int) : ∀ (n : Nat) (b1 : Int32) (b2 : Int32) (b3 : Int32) (T : Tm), Gq 0 Γ ω LC (uM M0 k) 4 [(0, .ref (th ω k 0)), (1, .int b1), (2, .int b2), (3, .int b3)] [] T (m_X4_lengthOfLine_4 n b1 b2 b3 T) := by
  intro n
  induction n with
  | zero =>
    intro b1 b2 b3 T
    rw [m_X4_lengthOfLine_4.eq_1]
    exact g_none
  | succ n ih =>
    intro b1 b2 b3 T
    rw [m_X4_lengthOfLine_4.eq_2]
    refine g_iload_n h 3 dX4_lengthOfLine_4 rfl rfl ?_
    refine g_aload_n h 0 dX4_lengthOfLine_5 rfl rfl ?_
    refine g_getI h (v := T 0 10) (uMr M0 k _ _ _) (index := 42) (j := 10) (inS hk 0 (by decide)) (C := RX4) (T := TX4) (N := 13) rfl n_X4_lengthOfLine_4 (by decide) rfl (by decide +kernel) dX4_lengthOfLine_6 ?_
    refine g_ni (fun v1 => ?_)
    refine g_icmp_ge h 30 dX4_lengthOfLine_9 (by decide) (fun hc2 => ?_) (fun hc2 => ?_)
    · skip
      refine g_iload_n h 2 dX4_lengthOfLine_30 rfl rfl ?_
      exact g_iret hR rfl dX4_lengthOfLine_31
    · skip
      refine g_aload_n h 0 dX4_lengthOfLine_12 rfl rfl ?_
      refine g_iload_n h 3 dX4_lengthOfLine_13 rfl rfl ?_
      refine g_iload_n h 1 dX4_lengthOfLine_14 rfl rfl ?_
      refine g_callI h (As := [.int b3, .int b1]) (fun t => t) (fun r t hG => c_X4_isInLineOf l ω k hk M0 _ b3 b1 hG) (inS hk 0 (by decide)) (C := RX4) (T := TX4) (N := 13) rfl 2 rfl gX4_lengthOfLine_X4_isInLineOf rfl rfl rfl (by decide +kernel) (by decide) (st0 := _) rfl (Nat.le_of_ble_eq_true rfl) dX4_lengthOfLine_15 (fun r3 T4 => ?_)
      refine g_if_eq h 24 dX4_lengthOfLine_18 (by decide) (fun hc5 => ?_) (fun hc5 => ?_)
      · skip
        exact b_X4_lengthOfLine_24 hk h hR _ ih _ _ _ _
      · skip
        refine g_iinc h (b2 + 1) (lv' := [(2, .int (b2 + 1)), (0, .ref (th ω k 0)), (1, .int b1), (3, .int b3)]) dX4_lengthOfLine_21 2 rfl (congrArg (fun z => b2 + z) (by decide)) (by decide) [0, 1, 2, 3] rfl ?_
        refine g_sub (lv' := [(0, .ref (th ω k 0)), (1, .int b1), (2, .int (b2 + 1)), (3, .int b3)]) [1, 2, 0, 3] rfl ?_
        exact b_X4_lengthOfLine_24 hk h hR _ ih _ _ _ _
set_option maxHeartbeats 4000000 in
set_option maxRecDepth 100000 in
theorem c_X4_lengthOfLine (l : Launch) (ω : Wd) (k : Nat) (hk : kS k) (M0 : Mm) (T : Tm) (a1 : Int32) {r : Int32} {T' : Tm} (hm : m_X4_lengthOfLine a1 T = some (r, T')) : MI l yX4_lengthOfLine wsX4_lengthOfLine ⟨3, 0, 0, 67⟩ ω LC [.ref (th ω k 0), .int a1] (uM M0 k T) r (uM M0 k T') := by
  refine met_i (cc := cX4_lengthOfLine) (maxL := 4) (ty := .int) (by decide +kernel) rfl (Nat.le_of_ble_eq_true rfl) LC_nd ?_
  intro Γ h hR ht
  suffices K : Gq 0 Γ ω LC (uM M0 k) 0 [(0, .ref (th ω k 0)), (1, .int a1)] [] T (m_X4_lengthOfLine a1 T) from K (r, T') hm ht (c0 Γ)
  unfold m_X4_lengthOfLine
  refine g_iconst h 0 dX4_lengthOfLine_0 (by decide) ?_
  refine g_istore_n h rfl (lv' := [(2, .int 0), (0, .ref (th ω k 0)), (1, .int a1)]) dX4_lengthOfLine_1 (by decide) [0, 1, 2] rfl ?_
  refine g_iconst h 0 dX4_lengthOfLine_2 (by decide) ?_
  refine g_istore_n h rfl (lv' := [(3, .int 0), (2, .int 0), (0, .ref (th ω k 0)), (1, .int a1)]) dX4_lengthOfLine_3 (by decide) [0, 1, 2, 3] rfl ?_
  refine g_sub (lv' := [(0, .ref (th ω k 0)), (1, .int a1), (2, .int 0), (3, .int 0)]) [2, 3, 1, 0] rfl ?_
  exact b_X4_lengthOfLine_4 hk h hR fu _ _ _ _
theorem n_X4_mendError_4 : ∀ w ∈ wsX40, w ∈ wsX4_mendError := by decide +kernel
set_option maxHeartbeats 4000000 in
set_option maxRecDepth 100000 in
theorem c_X4_mendError (l : Launch) (ω : Wd) (k : Nat) (hk : kS k) (M0 : Mm) (T : Tm) (a1 : Int32) {r : Int32} {T' : Tm} (hm : m_X4_mendError a1 T = some (r, T')) : MI l yX4_mendError wsX4_mendError ⟨3, 0, 0, 64⟩ ω LC [.ref (th ω k 0), .int a1] (uM M0 k T) r (uM M0 k T') := by
  refine met_i (cc := cX4_mendError) (maxL := 3) (ty := .int) (by decide +kernel) rfl (Nat.le_of_ble_eq_true rfl) LC_nd ?_
  intro Γ h hR ht
  suffices K : Gq 0 Γ ω LC (uM M0 k) 0 [(0, .ref (th ω k 0)), (1, .int a1)] [] T (m_X4_mendError a1 T) from K (r, T') hm ht (c0 Γ)
  unfold m_X4_mendError
  refine g_aload_n h 0 dX4_mendError_0 rfl rfl ?_
  refine g_iload_n h 1 dX4_mendError_1 rfl rfl ?_
  refine g_callI h (As := [.int a1]) (fun t => t) (fun r t hG => c_X4_fallenError l ω k hk M0 _ a1 hG) (inS hk 0 (by decide)) (C := RX4) (T := TX4) (N := 13) rfl 1 rfl gX4_mendError_X4_fallenError rfl rfl rfl (by decide +kernel) (by decide) (st0 := _) rfl (Nat.le_of_ble_eq_true rfl) dX4_mendError_2 (fun r1 T2 => ?_)
  refine g_istore_n h rfl (lv' := [(2, .int r1), (0, .ref (th ω k 0)), (1, .int a1)]) dX4_mendError_5 (by decide) [0, 1, 2] rfl ?_
  refine g_iload_n h 0 dX4_mendError_6 rfl rfl ?_
  refine g_if_eq h 12 dX4_mendError_7 (by decide) (fun hc3 => ?_) (fun hc3 => ?_)
  · skip
    refine g_aload_n h 1 dX4_mendError_12 rfl rfl ?_
    refine g_getR h (index := 9) (j := 0) (inS hk 0 (by decide)) (C := RX4) (T := TX4) (N := 13) rfl n_X4_mendError_4 (by decide) rfl (by decide +kernel) dX4_mendError_13 ?_
    refine g_aload_n h 1 dX4_mendError_16 rfl rfl ?_
    refine g_getR h (index := 18) (j := 2) (inS hk 0 (by decide)) (C := RX4) (T := TX4) (N := 13) rfl n_X4_mendError_4 (by decide) rfl (by decide +kernel) dX4_mendError_17 ?_
    refine g_iload_n h 2 dX4_mendError_20 rfl rfl ?_
    refine g_iald h (v := T2 3 a1.toNatClampNeg) (uMr M0 k _ _ _) (inS hk 3 (by decide)) dX4_mendError_21 ?_
    refine g_ni (fun v4 => ?_)
    refine g_iald h (v := T2 1 v4.toNatClampNeg) (uMr M0 k _ _ _) (inS hk 1 (by decide)) dX4_mendError_22 ?_
    refine g_ni (fun v5 => ?_)
    refine g_iconst h 1 dX4_mendError_23 (by decide) ?_
    refine g_icmp_ge h 32 dX4_mendError_24 (by decide) (fun hc6 => ?_) (fun hc6 => ?_)
    · skip
      refine g_iconst h 0 dX4_mendError_32 (by decide) ?_
      exact g_iret hR rfl dX4_mendError_33
    · skip
      refine g_bipush h (-4) dX4_mendError_27 (by decide) ?_
      refine g_goto h (tgt := 33) dX4_mendError_29 (by decide) ?_
      exact g_iret hR rfl dX4_mendError_33
  · skip
    refine g_iload_n h 0 dX4_mendError_10 rfl rfl ?_
    exact g_iret hR rfl dX4_mendError_11
theorem n_X4_settleBoast_4 : ∀ w ∈ wsX40, w ∈ wsX4_settleBoast := by decide +kernel
set_option maxHeartbeats 4000000 in
set_option maxRecDepth 100000 in
theorem b_X4_settleBoast_25 {Γ : Cx} {l : Launch} {ω : Wd} {M0 : Mm} {k : Nat} (hk : kS k) (h : CxOk Γ l ⟨0, 0, 0, 0⟩ 4 ω LC cX4_settleBoast yX4_settleBoast.cls wsX4_settleBoast) (hR : RetI Γ ω LC cX4_settleBoast .int) : ∀ (b2 : Int32) (s0 : Int32) (T : Tm), Gq 0 Γ ω LC (uM M0 k) 25 [(0, .ref (th ω k 0)), (2, .int b2)] [.int s0] T (m_X4_settleBoast_25 b2 s0 T) := by
  intro b2 s0 T
  unfold m_X4_settleBoast_25
  refine g_istore_n h rfl (lv' := [(3, .int s0), (0, .ref (th ω k 0)), (2, .int b2)]) dX4_settleBoast_25 (by decide) [0, 1, 2] rfl ?_
  refine g_aload_n h 1 dX4_settleBoast_26 rfl rfl ?_
  refine g_getR h (index := 15) (j := 1) (inS hk 0 (by decide)) (C := RX4) (T := TX4) (N := 13) rfl n_X4_settleBoast_4 (by decide) rfl (by decide +kernel) dX4_settleBoast_27 ?_
  refine g_iload_n h 0 dX4_settleBoast_30 rfl rfl ?_
  refine g_dup2 h dX4_settleBoast_31 rfl rfl ?_
  refine g_iald h (v := T 2 s0.toNatClampNeg) (uMr M0 k _ _ _) (inS hk 2 (by decide)) dX4_settleBoast_32 ?_
  refine g_ni (fun v1 => ?_)
  refine g_iconst h 1 dX4_settleBoast_33 (by decide) ?_
  refine g_iadd h dX4_settleBoast_34 ?_
  refine g_iast h (x' := wT T 2 s0.toNatClampNeg (v1 + 1)) (wM_uM M0 k _ _ _ _).symm (inS hk 2 (by decide)) dX4_settleBoast_35 ?_
  refine g_nm (fun T2 => ?_)
  refine g_aload_n h 1 dX4_settleBoast_36 rfl rfl ?_
  refine g_getR h (index := 33) (j := 7) (inS hk 0 (by decide)) (C := RX4) (T := TX4) (N := 13) rfl n_X4_settleBoast_4 (by decide) rfl (by decide +kernel) dX4_settleBoast_37 ?_
  refine g_iload_n h 2 dX4_settleBoast_40 rfl rfl ?_
  refine g_bipush h (-5) dX4_settleBoast_41 (by decide) ?_
  refine g_iast h (x' := wT T2 8 b2.toNatClampNeg (-5)) (wM_uM M0 k _ _ _ _).symm (inS hk 8 (by decide)) dX4_settleBoast_43 ?_
  refine g_nm (fun T3 => ?_)
  refine g_iload_n h 0 dX4_settleBoast_44 rfl rfl ?_
  exact g_iret hR rfl dX4_settleBoast_45
set_option maxHeartbeats 4000000 in
set_option maxRecDepth 100000 in
theorem c_X4_settleBoast (l : Launch) (ω : Wd) (k : Nat) (hk : kS k) (M0 : Mm) (T : Tm) (a1 : Int32) (a2 : Int32) {r : Int32} {T' : Tm} (hm : m_X4_settleBoast a1 a2 T = some (r, T')) : MI l yX4_settleBoast wsX4_settleBoast ⟨0, 0, 0, 0⟩ ω LC [.ref (th ω k 0), .int a1, .int a2] (uM M0 k T) r (uM M0 k T') := by
  refine met_i (cc := cX4_settleBoast) (maxL := 4) (ty := .int) (by decide +kernel) rfl (Nat.le_of_ble_eq_true rfl) LC_nd ?_
  intro Γ h hR ht
  suffices K : Gq 0 Γ ω LC (uM M0 k) 0 [(0, .ref (th ω k 0)), (1, .int a1), (2, .int a2)] [] T (m_X4_settleBoast a1 a2 T) from K (r, T') hm ht (c0 Γ)
  unfold m_X4_settleBoast
  refine g_aload_n h 0 dX4_settleBoast_0 rfl rfl ?_
  refine g_getR h (index := 33) (j := 7) (inS hk 0 (by decide)) (C := RX4) (T := TX4) (N := 13) rfl n_X4_settleBoast_4 (by decide) rfl (by decide +kernel) dX4_settleBoast_1 ?_
  refine g_iload_n h 2 dX4_settleBoast_4 rfl rfl ?_
  refine g_iald h (v := T 8 a2.toNatClampNeg) (uMr M0 k _ _ _) (inS hk 8 (by decide)) dX4_settleBoast_5 ?_
  refine g_ni (fun v1 => ?_)
  refine g_aload_n h 0 dX4_settleBoast_6 rfl rfl ?_
  refine g_getR h (index := 30) (j := 6) (inS hk 0 (by decide)) (C := RX4) (T := TX4) (N := 13) rfl n_X4_settleBoast_4 (by decide) rfl (by decide +kernel) dX4_settleBoast_7 ?_
  refine g_iload_n h 2 dX4_settleBoast_10 rfl rfl ?_
  refine g_iald h (v := T 7 a2.toNatClampNeg) (uMr M0 k _ _ _) (inS hk 7 (by decide)) dX4_settleBoast_11 ?_
  refine g_ni (fun v2 => ?_)
  refine g_icmp_le h 24 dX4_settleBoast_12 (by decide) (fun hc3 => ?_) (fun hc3 => ?_)
  · skip
    refine g_iload_n h 1 dX4_settleBoast_24 rfl rfl ?_
    refine g_sub (lv' := [(0, .ref (th ω k 0)), (2, .int a2)]) [0, 2] rfl ?_
    exact b_X4_settleBoast_25 hk h hR _ _ _
  · skip
    refine g_aload_n h 0 dX4_settleBoast_15 rfl rfl ?_
    refine g_getR h (index := 18) (j := 2) (inS hk 0 (by decide)) (C := RX4) (T := TX4) (N := 13) rfl n_X4_settleBoast_4 (by decide) rfl (by decide +kernel) dX4_settleBoast_16 ?_
    refine g_iload_n h 2 dX4_settleBoast_19 rfl rfl ?_
    refine g_iald h (v := T 3 a2.toNatClampNeg) (uMr M0 k _ _ _) (inS hk 3 (by decide)) dX4_settleBoast_20 ?_
    refine g_ni (fun v4 => ?_)
    refine g_goto h (tgt := 25) dX4_settleBoast_21 (by decide) ?_
    refine g_sub (lv' := [(0, .ref (th ω k 0)), (2, .int a2)]) [0, 2] rfl ?_
    exact b_X4_settleBoast_25 hk h hR _ _ _
set_option maxHeartbeats 4000000 in
set_option maxRecDepth 100000 in
theorem c_X4_strikeError (l : Launch) (ω : Wd) (k : Nat) (hk : kS k) (M0 : Mm) (T : Tm) (a1 : Int32) (a2 : Int32) (a3 : Int32) {r : Int32} {T' : Tm} (hm : m_X4_strikeError a1 a2 a3 T = some (r, T')) : MI l yX4_strikeError wsX4_strikeError ⟨3, 0, 0, 66⟩ ω LC [.ref (th ω k 0), .int a1, .int a2, .int a3] (uM M0 k T) r (uM M0 k T') := by
  refine met_i (cc := cX4_strikeError) (maxL := 4) (ty := .int) (by decide +kernel) rfl (Nat.le_of_ble_eq_true rfl) LC_nd ?_
  intro Γ h hR ht
  suffices K : Gq 0 Γ ω LC (uM M0 k) 0 [(0, .ref (th ω k 0)), (1, .int a1), (2, .int a2), (3, .int a3)] [] T (m_X4_strikeError a1 a2 a3 T) from K (r, T') hm ht (c0 Γ)
  unfold m_X4_strikeError
  refine g_aload_n h 0 dX4_strikeError_0 rfl rfl ?_
  refine g_iload_n h 1 dX4_strikeError_1 rfl rfl ?_
  refine g_iload_n h 2 dX4_strikeError_2 rfl rfl ?_
  refine g_iload_n h 3 dX4_strikeError_3 rfl rfl ?_
  refine g_iconst h 1 dX4_strikeError_4 (by decide) ?_
  refine g_bipush h 9 dX4_strikeError_5 (by decide) ?_
  refine g_callPN h (As := [.int a3, .int 1, .int 9]) (fun r t hG => c_X5_isWithin l ω M00 a3 1 9 hG) 3 rfl gX4_strikeError_X5_isWithin_n58 rfl (by decide +kernel) (by decide +kernel) (fun _ hz => hz) rfl rfl (by decide +kernel) (by decide) (st0 := _) rfl (Nat.le_of_ble_eq_true rfl) dX4_strikeError_7 (fun r1 => ?_)
  refine g_callI h (As := [.int a1, .int a2, .int r1]) (fun t => t) (fun r t hG => c_X4_pairError l ω k hk M0 _ a1 a2 r1 hG) (inS hk 0 (by decide)) (C := RX4) (T := TX4) (N := 13) rfl 3 rfl gX4_strikeError_X4_pairError rfl rfl rfl (by decide +kernel) (by decide) (st0 := _) rfl (Nat.le_of_ble_eq_true rfl) dX4_strikeError_10 (fun r2 T3 => ?_)
  exact g_iret hR rfl dX4_strikeError_13
theorem n_X4_threadAgain_4 : ∀ w ∈ wsX40, w ∈ wsX4_threadAgain := by decide +kernel
set_option maxHeartbeats 4000000 in
set_option maxRecDepth 100000 in
theorem c_X4_threadAgain (l : Launch) (ω : Wd) (k : Nat) (hk : kS k) (M0 : Mm) (T : Tm) (a1 : Int32) {r : Int32} {T' : Tm} (hm : m_X4_threadAgain a1 T = some (r, T')) : MI l yX4_threadAgain wsX4_threadAgain ⟨0, 0, 0, 0⟩ ω LC [.ref (th ω k 0), .int a1] (uM M0 k T) r (uM M0 k T') := by
  refine met_i (cc := cX4_threadAgain) (maxL := 3) (ty := .int) (by decide +kernel) rfl (Nat.le_of_ble_eq_true rfl) LC_nd ?_
  intro Γ h hR ht
  suffices K : Gq 0 Γ ω LC (uM M0 k) 0 [(0, .ref (th ω k 0)), (1, .int a1)] [] T (m_X4_threadAgain a1 T) from K (r, T') hm ht (c0 Γ)
  unfold m_X4_threadAgain
  refine g_aload_n h 0 dX4_threadAgain_0 rfl rfl ?_
  refine g_getR h (index := 18) (j := 2) (inS hk 0 (by decide)) (C := RX4) (T := TX4) (N := 13) rfl n_X4_threadAgain_4 (by decide) rfl (by decide +kernel) dX4_threadAgain_1 ?_
  refine g_iload_n h 1 dX4_threadAgain_4 rfl rfl ?_
  refine g_iald h (v := T 3 a1.toNatClampNeg) (uMr M0 k _ _ _) (inS hk 3 (by decide)) dX4_threadAgain_5 ?_
  refine g_ni (fun v1 => ?_)
  refine g_istore_n h rfl (lv' := [(2, .int v1), (0, .ref (th ω k 0)), (1, .int a1)]) dX4_threadAgain_6 (by decide) [0, 1, 2] rfl ?_
  refine g_aload_n h 1 dX4_threadAgain_7 rfl rfl ?_
  refine g_getR h (index := 9) (j := 0) (inS hk 0 (by decide)) (C := RX4) (T := TX4) (N := 13) rfl n_X4_threadAgain_4 (by decide) rfl (by decide +kernel) dX4_threadAgain_8 ?_
  refine g_iload_n h 0 dX4_threadAgain_11 rfl rfl ?_
  refine g_dup2 h dX4_threadAgain_12 rfl rfl ?_
  refine g_iald h (v := T 1 v1.toNatClampNeg) (uMr M0 k _ _ _) (inS hk 1 (by decide)) dX4_threadAgain_13 ?_
  refine g_ni (fun v2 => ?_)
  refine g_iconst h 1 dX4_threadAgain_14 (by decide) ?_
  refine g_isub h dX4_threadAgain_15 ?_
  refine g_iast h (x' := wT T 1 v1.toNatClampNeg (v2 - 1)) (wM_uM M0 k _ _ _ _).symm (inS hk 1 (by decide)) dX4_threadAgain_16 ?_
  refine g_nm (fun T3 => ?_)
  refine g_aload_n h 1 dX4_threadAgain_17 rfl rfl ?_
  refine g_getR h (index := 27) (j := 5) (inS hk 0 (by decide)) (C := RX4) (T := TX4) (N := 13) rfl n_X4_threadAgain_4 (by decide) rfl (by decide +kernel) dX4_threadAgain_18 ?_
  refine g_iload_n h 2 dX4_threadAgain_21 rfl rfl ?_
  refine g_iconst h 0 dX4_threadAgain_22 (by decide) ?_
  refine g_iast h (x' := wT T3 6 a1.toNatClampNeg 0) (wM_uM M0 k _ _ _ _).symm (inS hk 6 (by decide)) dX4_threadAgain_23 ?_
  refine g_nm (fun T4 => ?_)
  refine g_aload_n h 1 dX4_threadAgain_24 rfl rfl ?_
  refine g_getR h (index := 36) (j := 8) (inS hk 0 (by decide)) (C := RX4) (T := TX4) (N := 13) rfl n_X4_threadAgain_4 (by decide) rfl (by decide +kernel) dX4_threadAgain_25 ?_
  refine g_iload_n h 2 dX4_threadAgain_28 rfl rfl ?_
  refine g_iconst h 0 dX4_threadAgain_29 (by decide) ?_
  refine g_iast h (x' := wT T4 9 a1.toNatClampNeg 0) (wM_uM M0 k _ _ _ _).symm (inS hk 9 (by decide)) dX4_threadAgain_30 ?_
  refine g_nm (fun T5 => ?_)
  refine g_aload_n h 1 dX4_threadAgain_31 rfl rfl ?_
  refine g_getR h (index := 9) (j := 0) (inS hk 0 (by decide)) (C := RX4) (T := TX4) (N := 13) rfl n_X4_threadAgain_4 (by decide) rfl (by decide +kernel) dX4_threadAgain_32 ?_
  refine g_iload_n h 0 dX4_threadAgain_35 rfl rfl ?_
  refine g_iald h (v := T5 1 v1.toNatClampNeg) (uMr M0 k _ _ _) (inS hk 1 (by decide)) dX4_threadAgain_36 ?_
  refine g_ni (fun v6 => ?_)
  exact g_iret hR rfl dX4_threadAgain_37
theorem n_X4_victoriesOf_4 : ∀ w ∈ wsX40, w ∈ wsX4_victoriesOf := by decide +kernel
set_option maxHeartbeats 4000000 in
set_option maxRecDepth 100000 in
theorem b_X4_victoriesOf_30 {Γ : Cx} {l : Launch} {ω : Wd} {M0 : Mm} {k : Nat} (hk : kS k) (h : CxOk Γ l ⟨1, 0, 0, 22⟩ 4 ω LC cX4_victoriesOf yX4_victoriesOf.cls wsX4_victoriesOf) (hR : RetI Γ ω LC cX4_victoriesOf .int) (κ4 : Int32 → Int32 → Int32 → Tm → Option (Int32 × Tm)) (hκ4 : ∀ (b1 : Int32) (b2 : Int32) (b3 : Int32) (T : Tm), Gq 0 Γ ω LC (uM M0 k) 4 [(0, .ref (th ω k 0)), (1, .int b1), (2, .int b2), (3, .int b3)] [] T (κ4 b1 b2 b3 T)) : ∀ (b1 : Int32) (b2 : Int32) (b3 : Int32) (T : Tm), Gq 0 Γ ω LC (uM M0 k) 30 [(0, .ref (th ω k 0)), (1, .int b1), (2, .int b2), (3, .int b3)] [] T (m_X4_victoriesOf_30 κ4 b1 b2 b3 T) := by
  intro b1 b2 b3 T
  unfold m_X4_victoriesOf_30
  refine g_iinc h (b3 + 1) (lv' := [(3, .int (b3 + 1)), (0, .ref (th ω k 0)), (1, .int b1), (2, .int b2)]) dX4_victoriesOf_30 3 rfl (congrArg (fun z => b3 + z) (by decide)) (by decide) [0, 1, 2, 3] rfl ?_
  refine g_goto h (tgt := 4) dX4_victoriesOf_33 (by decide) ?_
  refine g_sub (lv' := [(0, .ref (th ω k 0)), (1, .int b1), (2, .int b2), (3, .int (b3 + 1))]) [1, 2, 3, 0] rfl ?_
  exact hκ4 _ _ _ _
set_option maxHeartbeats 4000000 in
set_option maxRecDepth 100000 in
theorem b_X4_victoriesOf_4 {Γ : Cx} {l : Launch} {ω : Wd} {M0 : Mm} {k : Nat} (hk : kS k) (h : CxOk Γ l ⟨1, 0, 0, 22⟩ 4 ω LC cX4_victoriesOf yX4_victoriesOf.cls wsX4_victoriesOf) (hR : RetI Γ ω LC cX4_victoriesOf .int) : ∀ (n : Nat) (b1 : Int32) (b2 : Int32) (b3 : Int32) (T : Tm), Gq 0 Γ ω LC (uM M0 k) 4 [(0, .ref (th ω k 0)), (1, .int b1), (2, .int b2), (3, .int b3)] [] T (m_X4_victoriesOf_4 n b1 b2 b3 T) := by
  intro n
  induction n with
  | zero =>
    intro b1 b2 b3 T
    rw [m_X4_victoriesOf_4.eq_1]
    exact g_none
  | succ n ih =>
    intro b1 b2 b3 T
    rw [m_X4_victoriesOf_4.eq_2]
    refine g_iload_n h 3 dX4_victoriesOf_4 rfl rfl ?_
    refine g_aload_n h 0 dX4_victoriesOf_5 rfl rfl ?_
    refine g_getI h (v := T 0 10) (uMr M0 k _ _ _) (index := 42) (j := 10) (inS hk 0 (by decide)) (C := RX4) (T := TX4) (N := 13) rfl n_X4_victoriesOf_4 (by decide) rfl (by decide +kernel) dX4_victoriesOf_6 ?_
    refine g_ni (fun v1 => ?_)
    refine g_icmp_ge h 36 dX4_victoriesOf_9 (by decide) (fun hc2 => ?_) (fun hc2 => ?_)
    · skip
      refine g_iload_n h 2 dX4_victoriesOf_36 rfl rfl ?_
      exact g_iret hR rfl dX4_victoriesOf_37
    · skip
      refine g_aload_n h 0 dX4_victoriesOf_12 rfl rfl ?_
      refine g_iload_n h 3 dX4_victoriesOf_13 rfl rfl ?_
      refine g_iload_n h 1 dX4_victoriesOf_14 rfl rfl ?_
      refine g_callI h (As := [.int b3, .int b1]) (fun t => t) (fun r t hG => c_X4_isOf l ω k hk M0 _ b3 b1 hG) (inS hk 0 (by decide)) (C := RX4) (T := TX4) (N := 13) rfl 2 rfl gX4_victoriesOf_X4_isOf rfl rfl rfl (by decide +kernel) (by decide) (st0 := _) rfl (Nat.le_of_ble_eq_true rfl) dX4_victoriesOf_15 (fun r3 T4 => ?_)
      refine g_if_eq h 30 dX4_victoriesOf_18 (by decide) (fun hc5 => ?_) (fun hc5 => ?_)
      · skip
        exact b_X4_victoriesOf_30 hk h hR _ ih _ _ _ _
      · skip
        refine g_iload_n h 2 dX4_victoriesOf_21 rfl rfl ?_
        refine g_aload_n h 0 dX4_victoriesOf_22 rfl rfl ?_
        refine g_getR h (index := 30) (j := 6) (inS hk 0 (by decide)) (C := RX4) (T := TX4) (N := 13) rfl n_X4_victoriesOf_4 (by decide) rfl (by decide +kernel) dX4_victoriesOf_23 ?_
        refine g_iload_n h 3 dX4_victoriesOf_26 rfl rfl ?_
        refine g_iald h (v := T4 7 b3.toNatClampNeg) (uMr M0 k _ _ _) (inS hk 7 (by decide)) dX4_victoriesOf_27 ?_
        refine g_ni (fun v6 => ?_)
        refine g_iadd h dX4_victoriesOf_28 ?_
        refine g_istore_n h rfl (lv' := [(2, .int (b2 + v6)), (0, .ref (th ω k 0)), (1, .int b1), (3, .int b3)]) dX4_victoriesOf_29 (by decide) [0, 1, 2, 3] rfl ?_
        refine g_sub (lv' := [(0, .ref (th ω k 0)), (1, .int b1), (2, .int (b2 + v6)), (3, .int b3)]) [1, 2, 0, 3] rfl ?_
        exact b_X4_victoriesOf_30 hk h hR _ ih _ _ _ _
set_option maxHeartbeats 4000000 in
set_option maxRecDepth 100000 in
theorem c_X4_victoriesOf (l : Launch) (ω : Wd) (k : Nat) (hk : kS k) (M0 : Mm) (T : Tm) (a1 : Int32) {r : Int32} {T' : Tm} (hm : m_X4_victoriesOf a1 T = some (r, T')) : MI l yX4_victoriesOf wsX4_victoriesOf ⟨1, 0, 0, 22⟩ ω LC [.ref (th ω k 0), .int a1] (uM M0 k T) r (uM M0 k T') := by
  refine met_i (cc := cX4_victoriesOf) (maxL := 4) (ty := .int) (by decide +kernel) rfl (Nat.le_of_ble_eq_true rfl) LC_nd ?_
  intro Γ h hR ht
  suffices K : Gq 0 Γ ω LC (uM M0 k) 0 [(0, .ref (th ω k 0)), (1, .int a1)] [] T (m_X4_victoriesOf a1 T) from K (r, T') hm ht (c0 Γ)
  unfold m_X4_victoriesOf
  refine g_iconst h 0 dX4_victoriesOf_0 (by decide) ?_
  refine g_istore_n h rfl (lv' := [(2, .int 0), (0, .ref (th ω k 0)), (1, .int a1)]) dX4_victoriesOf_1 (by decide) [0, 1, 2] rfl ?_
  refine g_iconst h 0 dX4_victoriesOf_2 (by decide) ?_
  refine g_istore_n h rfl (lv' := [(3, .int 0), (2, .int 0), (0, .ref (th ω k 0)), (1, .int a1)]) dX4_victoriesOf_3 (by decide) [0, 1, 2, 3] rfl ?_
  refine g_sub (lv' := [(0, .ref (th ω k 0)), (1, .int a1), (2, .int 0), (3, .int 0)]) [2, 3, 1, 0] rfl ?_
  exact b_X4_victoriesOf_4 hk h hR fu _ _ _ _
theorem n_X5_boast_4 : ∀ w ∈ wsX40, w ∈ wsX5_boast := by decide +kernel
theorem n_X5_boast_5 : ∀ w ∈ wsX50, w ∈ wsX5_boast := by decide +kernel
set_option maxHeartbeats 4000000 in
set_option maxRecDepth 100000 in
theorem c_X5_boast (l : Launch) (ω : Wd)  (M : Mm) (a1 : Int32) (a2 : Int32) {r : Int32} {M' : Mm} (hm : m_X5_boast a1 a2 M = some (r, M')) : MI l yX5_boast wsX5_boast ⟨3, 0, 0, 82⟩ ω LC [.ref (th ω 0 0), .int a1, .int a2] M r M' := by
  refine met_i (cc := cX5_boast) (maxL := 4) (ty := .int) (by decide +kernel) rfl (Nat.le_of_ble_eq_true rfl) LC_nd ?_
  intro Γ h hR ht
  suffices K : Gq 0 Γ ω LC eI 0 [(0, .ref (th ω 0 0)), (1, .int a1), (2, .int a2)] [] M (m_X5_boast a1 a2 M) from K (r, M') hm ht (c0 Γ)
  unfold m_X5_boast
  refine g_aload_n h 0 dX5_boast_0 rfl rfl ?_
  refine g_getR h (index := 10) (j := 0) iC_0_0 (C := RX5) (T := TX5) (N := 8) rfl n_X5_boast_5 (by decide) rfl (by decide +kernel) dX5_boast_1 ?_
  refine g_iload_n h 1 dX5_boast_4 rfl rfl ?_
  refine g_callI h (As := [.int a1]) (fun t => uM M 1 t) (fun r t hG => MI_self (c_X4_hasConker l ω 1 kS1 M _ a1 hG)) (inS kS1 0 (by decide)) (C := RX4) (T := TX4) (N := 13) rfl 1 rfl gX5_boast_X4_hasConker rfl rfl rfl (by decide +kernel) (by decide) (st0 := _) rfl (Nat.le_of_ble_eq_true rfl) dX5_boast_5 (fun r1 M2 => ?_)
  refine g_nm (fun M3 => ?_)
  refine g_if_ne h 13 dX5_boast_8 (by decide) (fun hc4 => ?_) (fun hc4 => ?_)
  · skip
    refine g_iconst h (-1) dX5_boast_11 (by decide) ?_
    exact g_iret hR rfl dX5_boast_12
  · skip
    refine g_iload_n h 2 dX5_boast_13 rfl rfl ?_
    refine g_iconst h 0 dX5_boast_14 (by decide) ?_
    refine g_bipush h 99 dX5_boast_15 (by decide) ?_
    refine g_callP h (As := [.int a2, .int 0, .int 99]) (fun r t hG => c_X5_isWithin l ω M00 a2 0 99 hG) 3 rfl gX5_boast_X5_isWithin rfl rfl rfl (by decide +kernel) (by decide) (st0 := _) rfl (Nat.le_of_ble_eq_true rfl) dX5_boast_17 (fun r5 => ?_)
    refine g_if_ne h 26 dX5_boast_20 (by decide) (fun hc6 => ?_) (fun hc6 => ?_)
    · skip
      refine g_bipush h (-2) dX5_boast_23 (by decide) ?_
      exact g_iret hR rfl dX5_boast_25
    · skip
      refine g_aload_n h 0 dX5_boast_26 rfl rfl ?_
      refine g_getR h (index := 10) (j := 0) iC_0_0 (C := RX5) (T := TX5) (N := 8) rfl n_X5_boast_5 (by decide) rfl (by decide +kernel) dX5_boast_27 ?_
      refine g_getR h (index := 101) (j := 8) (inS kS1 0 (by decide)) (C := RX4) (T := TX4) (N := 13) rfl n_X5_boast_4 (by decide) rfl (by decide +kernel) dX5_boast_30 ?_
      refine g_iload_n h 1 dX5_boast_33 rfl rfl ?_
      refine g_iald h (v := M3 1 9 a1.toNatClampNeg) rfl (inS kS1 9 (by decide)) dX5_boast_34 ?_
      refine g_ni (fun v7 => ?_)
      refine g_iconst h 2 dX5_boast_35 (by decide) ?_
      refine g_icmp_ne h 42 dX5_boast_36 (by decide) (fun hc8 => ?_) (fun hc8 => ?_)
      · skip
        refine g_bipush h (-4) dX5_boast_39 (by decide) ?_
        exact g_iret hR rfl dX5_boast_41
      · skip
        refine g_aload_n h 0 dX5_boast_42 rfl rfl ?_
        refine g_getR h (index := 25) (j := 3) iC_0_0 (C := RX5) (T := TX5) (N := 8) rfl n_X5_boast_5 (by decide) rfl (by decide +kernel) dX5_boast_43 ?_
        refine g_aload_n h 0 dX5_boast_46 rfl rfl ?_
        refine g_getR h (index := 10) (j := 0) iC_0_0 (C := RX5) (T := TX5) (N := 8) rfl n_X5_boast_5 (by decide) rfl (by decide +kernel) dX5_boast_47 ?_
        refine g_callV h (As := [.ref (th ω 1 0)]) (fun t => t) (fun r t hG => c_X1_keep l ω _ hG) iC_12_0 (C := RX1) (T := TX1) (N := 2) rfl 1 rfl gX5_boast_X1_keep rfl rfl rfl (by decide +kernel) (by decide) (st0 := _) rfl (Nat.le_of_ble_eq_true rfl) dX5_boast_50 (fun r9 M10 => ?_)
        refine g_aload_n h 0 dX5_boast_53 rfl rfl ?_
        refine g_getR h (index := 10) (j := 0) iC_0_0 (C := RX5) (T := TX5) (N := 8) rfl n_X5_boast_5 (by decide) rfl (by decide +kernel) dX5_boast_54 ?_
        refine g_getR h (index := 104) (j := 7) (inS kS1 0 (by decide)) (C := RX4) (T := TX4) (N := 13) rfl n_X5_boast_4 (by decide) rfl (by decide +kernel) dX5_boast_57 ?_
        refine g_iload_n h 1 dX5_boast_60 rfl rfl ?_
        refine g_iald h (v := M10 1 8 a1.toNatClampNeg) rfl (inS kS1 8 (by decide)) dX5_boast_61 ?_
        refine g_ni (fun v11 => ?_)
        refine g_istore_n h rfl (lv' := [(3, .int v11), (0, .ref (th ω 0 0)), (1, .int a1), (2, .int a2)]) dX5_boast_62 (by decide) [0, 1, 2, 3] rfl ?_
        refine g_aload_n h 1 dX5_boast_63 rfl rfl ?_
        refine g_getR h (index := 10) (j := 0) iC_0_0 (C := RX5) (T := TX5) (N := 8) rfl n_X5_boast_5 (by decide) rfl (by decide +kernel) dX5_boast_64 ?_
        refine g_getR h (index := 104) (j := 7) (inS kS1 0 (by decide)) (C := RX4) (T := TX4) (N := 13) rfl n_X5_boast_4 (by decide) rfl (by decide +kernel) dX5_boast_67 ?_
        refine g_iload_n h 2 dX5_boast_70 rfl rfl ?_
        refine g_iload_n h 3 dX5_boast_71 rfl rfl ?_
        refine g_iast h (x' := wM M10 1 8 a1.toNatClampNeg a2) rfl (inS kS1 8 (by decide)) dX5_boast_72 ?_
        refine g_nm (fun M12 => ?_)
        refine g_iload_n h 0 dX5_boast_73 rfl rfl ?_
        exact g_iret hR rfl dX5_boast_74
theorem n_X5_bout_5 : ∀ w ∈ wsX50, w ∈ wsX5_bout := by decide +kernel
set_option maxHeartbeats 4000000 in
set_option maxRecDepth 100000 in
theorem c_X5_bout (l : Launch) (ω : Wd)  (M : Mm) (a1 : Int32) (a2 : Int32) (a3 : Int32) {r : Int32} {M' : Mm} (hm : m_X5_bout a1 a2 a3 M = some (r, M')) : MI l yX5_bout wsX5_bout ⟨5, 0, 0, 120⟩ ω LC [.ref (th ω 0 0), .int a1, .int a2, .int a3] M r M' := by
  refine met_i (cc := cX5_bout) (maxL := 5) (ty := .int) (by decide +kernel) rfl (Nat.le_of_ble_eq_true rfl) LC_nd ?_
  intro Γ h hR ht
  suffices K : Gq 0 Γ ω LC eI 0 [(0, .ref (th ω 0 0)), (1, .int a1), (2, .int a2), (3, .int a3)] [] M (m_X5_bout a1 a2 a3 M) from K (r, M') hm ht (c0 Γ)
  unfold m_X5_bout
  refine g_aload_n h 0 dX5_bout_0 rfl rfl ?_
  refine g_getR h (index := 10) (j := 0) iC_0_0 (C := RX5) (T := TX5) (N := 8) rfl n_X5_bout_5 (by decide) rfl (by decide +kernel) dX5_bout_1 ?_
  refine g_iload_n h 1 dX5_bout_4 rfl rfl ?_
  refine g_iload_n h 2 dX5_bout_5 rfl rfl ?_
  refine g_iload_n h 3 dX5_bout_6 rfl rfl ?_
  refine g_callI h (As := [.int a1, .int a2, .int a3]) (fun t => uM M 1 t) (fun r t hG => MI_self (c_X4_boutError l ω 1 kS1 M _ a1 a2 a3 hG)) (inS kS1 0 (by decide)) (C := RX4) (T := TX4) (N := 13) rfl 3 rfl gX5_bout_X4_boutError rfl rfl rfl (by decide +kernel) (by decide) (st0 := _) rfl (Nat.le_of_ble_eq_true rfl) dX5_bout_7 (fun r1 M2 => ?_)
  refine g_nm (fun M3 => ?_)
  refine g_istore h (lv' := [(4, .int r1), (0, .ref (th ω 0 0)), (1, .int a1), (2, .int a2), (3, .int a3)]) dX5_bout_10 (by decide) [0, 1, 2, 3, 4] rfl ?_
  refine g_iload h 0 dX5_bout_12 rfl ?_
  refine g_if_eq h 20 dX5_bout_14 (by decide) (fun hc4 => ?_) (fun hc4 => ?_)
  · skip
    refine g_aload_n h 1 dX5_bout_20 rfl rfl ?_
    refine g_getR h (index := 25) (j := 3) iC_0_0 (C := RX5) (T := TX5) (N := 8) rfl n_X5_bout_5 (by decide) rfl (by decide +kernel) dX5_bout_21 ?_
    refine g_aload_n h 1 dX5_bout_24 rfl rfl ?_
    refine g_getR h (index := 10) (j := 0) iC_0_0 (C := RX5) (T := TX5) (N := 8) rfl n_X5_bout_5 (by decide) rfl (by decide +kernel) dX5_bout_25 ?_
    refine g_callV h (As := [.ref (th ω 1 0)]) (fun t => t) (fun r t hG => c_X1_keep l ω _ hG) iC_12_0 (C := RX1) (T := TX1) (N := 2) rfl 1 rfl gX5_bout_X1_keep rfl rfl rfl (by decide +kernel) (by decide) (st0 := _) rfl (Nat.le_of_ble_eq_true rfl) dX5_bout_28 (fun r5 M6 => ?_)
    refine g_aload_n h 1 dX5_bout_31 rfl rfl ?_
    refine g_getR h (index := 39) (j := 5) iC_0_0 (C := RX5) (T := TX5) (N := 8) rfl n_X5_bout_5 (by decide) rfl (by decide +kernel) dX5_bout_32 ?_
    refine g_iload_n h 4 dX5_bout_35 rfl rfl ?_
    refine g_callV h (As := [.int a3]) (fun t => uM M6 10 t) (fun r t hG => MV_self (c_X0_begin l ω M6 _ a3 hG)) iC_10_0 (C := RX0) (T := TX0) (N := 1) rfl 1 rfl gX5_bout_X0_begin rfl rfl rfl (by decide +kernel) (by decide) (st0 := _) rfl (Nat.le_of_ble_eq_true rfl) dX5_bout_36 (fun r7 M8 => ?_)
    refine g_nm (fun M9 => ?_)
    refine g_aload_n h 1 dX5_bout_39 rfl rfl ?_
    refine g_getR h (index := 10) (j := 0) iC_0_0 (C := RX5) (T := TX5) (N := 8) rfl n_X5_bout_5 (by decide) rfl (by decide +kernel) dX5_bout_40 ?_
    refine g_iload_n h 2 dX5_bout_43 rfl rfl ?_
    refine g_iload_n h 3 dX5_bout_44 rfl rfl ?_
    refine g_aload_n h 1 dX5_bout_45 rfl rfl ?_
    refine g_getR h (index := 39) (j := 5) iC_0_0 (C := RX5) (T := TX5) (N := 8) rfl n_X5_bout_5 (by decide) rfl (by decide +kernel) dX5_bout_46 ?_
    refine g_callI h (As := [.int a1, .int a2, .ref (th ω 10 0)]) (fun t => t) (fun r t hG => c_X4_fight l ω 1 kS1 _ a1 a2 hG) (inS kS1 0 (by decide)) (C := RX4) (T := TX4) (N := 13) rfl 3 rfl gX5_bout_X4_fight rfl rfl rfl (by decide +kernel) (by decide) (st0 := _) rfl (Nat.le_of_ble_eq_true rfl) dX5_bout_49 (fun r10 M11 => ?_)
    exact g_iret hR rfl dX5_bout_52
  · skip
    refine g_iload h 0 dX5_bout_17 rfl ?_
    exact g_iret hR rfl dX5_bout_19
theorem n_X5_conker_4 : ∀ w ∈ wsX40, w ∈ wsX5_conker := by decide +kernel
theorem n_X5_conker_5 : ∀ w ∈ wsX50, w ∈ wsX5_conker := by decide +kernel
set_option maxHeartbeats 4000000 in
set_option maxRecDepth 100000 in
theorem c_X5_conker (l : Launch) (ω : Wd)  (M : Mm) (a1 : Int32) (a2 : Int32) {r : Int32} {M' : Mm} (hm : m_X5_conker a1 a2 M = some (r, M')) : MI l yX5_conker wsX5_conker ⟨2, 0, 0, 43⟩ ω LC [.ref (th ω 0 0), .int a1, .int a2] M r M' := by
  refine met_i (cc := cX5_conker) (maxL := 3) (ty := .int) (by decide +kernel) rfl (Nat.le_of_ble_eq_true rfl) LC_nd ?_
  intro Γ h hR ht
  suffices K : Gq 0 Γ ω LC eI 0 [(0, .ref (th ω 0 0)), (1, .int a1), (2, .int a2)] [] M (m_X5_conker a1 a2 M) from K (r, M') hm ht (c0 Γ)
  unfold m_X5_conker
  refine g_aload_n h 0 dX5_conker_0 rfl rfl ?_
  refine g_getR h (index := 10) (j := 0) iC_0_0 (C := RX5) (T := TX5) (N := 8) rfl n_X5_conker_5 (by decide) rfl (by decide +kernel) dX5_conker_1 ?_
  refine g_iload_n h 1 dX5_conker_4 rfl rfl ?_
  refine g_callI h (As := [.int a1]) (fun t => uM M 1 t) (fun r t hG => MI_self (c_X4_hasConker l ω 1 kS1 M _ a1 hG)) (inS kS1 0 (by decide)) (C := RX4) (T := TX4) (N := 13) rfl 1 rfl gX5_conker_X4_hasConker rfl rfl rfl (by decide +kernel) (by decide) (st0 := _) rfl (Nat.le_of_ble_eq_true rfl) dX5_conker_5 (fun r1 M2 => ?_)
  refine g_nm (fun M3 => ?_)
  refine g_if_ne h 13 dX5_conker_8 (by decide) (fun hc4 => ?_) (fun hc4 => ?_)
  · skip
    refine g_iconst h (-1) dX5_conker_11 (by decide) ?_
    exact g_iret hR rfl dX5_conker_12
  · skip
    refine g_iload_n h 2 dX5_conker_13 rfl rfl ?_
    refine g_if (fun hc5 => ?_) (fun hc5 => ?_)
    · refine g_tsIn h 0 (off := 50) 64 hc5 dX5_conker_14 (by decide) (by decide) rfl (by decide) ?_
      refine g_aload_n h 0 dX5_conker_64 rfl rfl ?_
      refine g_getR h (index := 10) (j := 0) iC_0_0 (C := RX5) (T := TX5) (N := 8) rfl n_X5_conker_5 (by decide) rfl (by decide +kernel) dX5_conker_65 ?_
      refine g_getR h (index := 107) (j := 2) (inS kS1 0 (by decide)) (C := RX4) (T := TX4) (N := 13) rfl n_X5_conker_4 (by decide) rfl (by decide +kernel) dX5_conker_68 ?_
      refine g_iload_n h 1 dX5_conker_71 rfl rfl ?_
      refine g_iald h (v := M3 1 3 a1.toNatClampNeg) rfl (inS kS1 3 (by decide)) dX5_conker_72 ?_
      refine g_ni (fun v6 => ?_)
      exact g_iret hR rfl dX5_conker_73
    refine g_if (fun hc7 => ?_) (fun hc7 => ?_)
    · refine g_tsIn h 1 (off := 60) 74 hc7 dX5_conker_14 (by decide) (by decide) rfl (by decide) ?_
      refine g_aload_n h 0 dX5_conker_74 rfl rfl ?_
      refine g_getR h (index := 10) (j := 0) iC_0_0 (C := RX5) (T := TX5) (N := 8) rfl n_X5_conker_5 (by decide) rfl (by decide +kernel) dX5_conker_75 ?_
      refine g_getR h (index := 170) (j := 3) (inS kS1 0 (by decide)) (C := RX4) (T := TX4) (N := 13) rfl n_X5_conker_4 (by decide) rfl (by decide +kernel) dX5_conker_78 ?_
      refine g_iload_n h 1 dX5_conker_81 rfl rfl ?_
      refine g_iald h (v := M3 1 4 a1.toNatClampNeg) rfl (inS kS1 4 (by decide)) dX5_conker_82 ?_
      refine g_ni (fun v8 => ?_)
      exact g_iret hR rfl dX5_conker_83
    refine g_if (fun hc9 => ?_) (fun hc9 => ?_)
    · refine g_tsIn h 2 (off := 70) 84 hc9 dX5_conker_14 (by decide) (by decide) rfl (by decide) ?_
      refine g_aload_n h 0 dX5_conker_84 rfl rfl ?_
      refine g_getR h (index := 10) (j := 0) iC_0_0 (C := RX5) (T := TX5) (N := 8) rfl n_X5_conker_5 (by decide) rfl (by decide +kernel) dX5_conker_85 ?_
      refine g_getR h (index := 173) (j := 4) (inS kS1 0 (by decide)) (C := RX4) (T := TX4) (N := 13) rfl n_X5_conker_4 (by decide) rfl (by decide +kernel) dX5_conker_88 ?_
      refine g_iload_n h 1 dX5_conker_91 rfl rfl ?_
      refine g_iald h (v := M3 1 5 a1.toNatClampNeg) rfl (inS kS1 5 (by decide)) dX5_conker_92 ?_
      refine g_ni (fun v10 => ?_)
      exact g_iret hR rfl dX5_conker_93
    refine g_if (fun hc11 => ?_) (fun hc11 => ?_)
    · refine g_tsIn h 3 (off := 80) 94 hc11 dX5_conker_14 (by decide) (by decide) rfl (by decide) ?_
      refine g_aload_n h 0 dX5_conker_94 rfl rfl ?_
      refine g_getR h (index := 10) (j := 0) iC_0_0 (C := RX5) (T := TX5) (N := 8) rfl n_X5_conker_5 (by decide) rfl (by decide +kernel) dX5_conker_95 ?_
      refine g_getR h (index := 176) (j := 5) (inS kS1 0 (by decide)) (C := RX4) (T := TX4) (N := 13) rfl n_X5_conker_4 (by decide) rfl (by decide +kernel) dX5_conker_98 ?_
      refine g_iload_n h 1 dX5_conker_101 rfl rfl ?_
      refine g_iald h (v := M3 1 6 a1.toNatClampNeg) rfl (inS kS1 6 (by decide)) dX5_conker_102 ?_
      refine g_ni (fun v12 => ?_)
      exact g_iret hR rfl dX5_conker_103
    refine g_if (fun hc13 => ?_) (fun hc13 => ?_)
    · refine g_tsIn h 4 (off := 90) 104 hc13 dX5_conker_14 (by decide) (by decide) rfl (by decide) ?_
      refine g_aload_n h 0 dX5_conker_104 rfl rfl ?_
      refine g_getR h (index := 10) (j := 0) iC_0_0 (C := RX5) (T := TX5) (N := 8) rfl n_X5_conker_5 (by decide) rfl (by decide +kernel) dX5_conker_105 ?_
      refine g_getR h (index := 179) (j := 6) (inS kS1 0 (by decide)) (C := RX4) (T := TX4) (N := 13) rfl n_X5_conker_4 (by decide) rfl (by decide +kernel) dX5_conker_108 ?_
      refine g_iload_n h 1 dX5_conker_111 rfl rfl ?_
      refine g_iald h (v := M3 1 7 a1.toNatClampNeg) rfl (inS kS1 7 (by decide)) dX5_conker_112 ?_
      refine g_ni (fun v14 => ?_)
      exact g_iret hR rfl dX5_conker_113
    refine g_if (fun hc15 => ?_) (fun hc15 => ?_)
    · refine g_tsIn h 5 (off := 100) 114 hc15 dX5_conker_14 (by decide) (by decide) rfl (by decide) ?_
      refine g_aload_n h 0 dX5_conker_114 rfl rfl ?_
      refine g_getR h (index := 10) (j := 0) iC_0_0 (C := RX5) (T := TX5) (N := 8) rfl n_X5_conker_5 (by decide) rfl (by decide +kernel) dX5_conker_115 ?_
      refine g_getR h (index := 104) (j := 7) (inS kS1 0 (by decide)) (C := RX4) (T := TX4) (N := 13) rfl n_X5_conker_4 (by decide) rfl (by decide +kernel) dX5_conker_118 ?_
      refine g_iload_n h 1 dX5_conker_121 rfl rfl ?_
      refine g_iald h (v := M3 1 8 a1.toNatClampNeg) rfl (inS kS1 8 (by decide)) dX5_conker_122 ?_
      refine g_ni (fun v16 => ?_)
      exact g_iret hR rfl dX5_conker_123
    refine g_if (fun hc17 => ?_) (fun hc17 => ?_)
    · refine g_tsIn h 6 (off := 110) 124 hc17 dX5_conker_14 (by decide) (by decide) rfl (by decide) ?_
      refine g_aload_n h 0 dX5_conker_124 rfl rfl ?_
      refine g_getR h (index := 10) (j := 0) iC_0_0 (C := RX5) (T := TX5) (N := 8) rfl n_X5_conker_5 (by decide) rfl (by decide +kernel) dX5_conker_125 ?_
      refine g_getR h (index := 101) (j := 8) (inS kS1 0 (by decide)) (C := RX4) (T := TX4) (N := 13) rfl n_X5_conker_4 (by decide) rfl (by decide +kernel) dX5_conker_128 ?_
      refine g_iload_n h 1 dX5_conker_131 rfl rfl ?_
      refine g_iald h (v := M3 1 9 a1.toNatClampNeg) rfl (inS kS1 9 (by decide)) dX5_conker_132 ?_
      refine g_ni (fun v18 => ?_)
      exact g_iret hR rfl dX5_conker_133
    refine g_if (fun hc19 => ?_) (fun hc19 => ?_)
    · refine g_tsIn h 7 (off := 120) 134 hc19 dX5_conker_14 (by decide) (by decide) rfl (by decide) ?_
      refine g_aload_n h 0 dX5_conker_134 rfl rfl ?_
      refine g_getR h (index := 10) (j := 0) iC_0_0 (C := RX5) (T := TX5) (N := 8) rfl n_X5_conker_5 (by decide) rfl (by decide +kernel) dX5_conker_135 ?_
      refine g_getR h (index := 182) (j := 9) (inS kS1 0 (by decide)) (C := RX4) (T := TX4) (N := 13) rfl n_X5_conker_4 (by decide) rfl (by decide +kernel) dX5_conker_138 ?_
      refine g_iload_n h 1 dX5_conker_141 rfl rfl ?_
      refine g_iald h (v := M3 1 10 a1.toNatClampNeg) rfl (inS kS1 10 (by decide)) dX5_conker_142 ?_
      refine g_ni (fun v20 => ?_)
      exact g_iret hR rfl dX5_conker_143
    refine g_if (fun hc21 => ?_) (fun hc21 => ?_)
    · refine g_tsIn h 8 (off := 130) 144 hc21 dX5_conker_14 (by decide) (by decide) rfl (by decide) ?_
      refine g_aload_n h 0 dX5_conker_144 rfl rfl ?_
      refine g_getR h (index := 10) (j := 0) iC_0_0 (C := RX5) (T := TX5) (N := 8) rfl n_X5_conker_5 (by decide) rfl (by decide +kernel) dX5_conker_145 ?_
      refine g_iload_n h 1 dX5_conker_148 rfl rfl ?_
      refine g_callI h (As := [.int a1]) (fun t => uM M3 1 t) (fun r t hG => MI_self (c_X4_conkersSmashedBy l ω 1 kS1 M3 _ a1 hG)) (inS kS1 0 (by decide)) (C := RX4) (T := TX4) (N := 13) rfl 1 rfl gX5_conker_X4_conkersSmashedBy rfl rfl rfl (by decide +kernel) (by decide) (st0 := _) rfl (Nat.le_of_ble_eq_true rfl) dX5_conker_149 (fun r22 M23 => ?_)
      refine g_nm (fun M24 => ?_)
      exact g_iret hR rfl dX5_conker_152
    refine g_tsOut h 153 (by
        have e0 : ¬ Int32.toInt a2 = 0 := lv_neT hc5 (by decide)
        have e1 : ¬ Int32.toInt a2 = 1 := lv_neT hc7 (by decide)
        have e2 : ¬ Int32.toInt a2 = 2 := lv_neT hc9 (by decide)
        have e3 : ¬ Int32.toInt a2 = 3 := lv_neT hc11 (by decide)
        have e4 : ¬ Int32.toInt a2 = 4 := lv_neT hc13 (by decide)
        have e5 : ¬ Int32.toInt a2 = 5 := lv_neT hc15 (by decide)
        have e6 : ¬ Int32.toInt a2 = 6 := lv_neT hc17 (by decide)
        have e7 : ¬ Int32.toInt a2 = 7 := lv_neT hc19 (by decide)
        have e8 : ¬ Int32.toInt a2 = 8 := lv_neT hc21 (by decide)
        omega) dX5_conker_14 (by decide) ?_
    refine g_bipush h (-2) dX5_conker_153 (by decide) ?_
    exact g_iret hR rfl dX5_conker_155
theorem n_X5_count_1 : ∀ w ∈ wsX10, w ∈ wsX5_count := by decide +kernel
theorem n_X5_count_3 : ∀ w ∈ wsX30, w ∈ wsX5_count := by decide +kernel
theorem n_X5_count_4 : ∀ w ∈ wsX40, w ∈ wsX5_count := by decide +kernel
theorem n_X5_count_5 : ∀ w ∈ wsX50, w ∈ wsX5_count := by decide +kernel
set_option maxHeartbeats 4000000 in
set_option maxRecDepth 100000 in
theorem c_X5_count (l : Launch) (ω : Wd)  (M : Mm) (a1 : Int32) {r : Int32} {M' : Mm} (hm : m_X5_count a1 M = some (r, M')) : MI l yX5_count wsX5_count ⟨2, 0, 0, 46⟩ ω LC [.ref (th ω 0 0), .int a1] M r M' := by
  refine met_i (cc := cX5_count) (maxL := 2) (ty := .int) (by decide +kernel) rfl (Nat.le_of_ble_eq_true rfl) LC_nd ?_
  intro Γ h hR ht
  suffices K : Gq 0 Γ ω LC eI 0 [(0, .ref (th ω 0 0)), (1, .int a1)] [] M (m_X5_count a1 M) from K (r, M') hm ht (c0 Γ)
  unfold m_X5_count
  refine g_iload_n h 1 dX5_count_0 rfl rfl ?_
  refine g_if (fun hc1 => ?_) (fun hc1 => ?_)
  · refine g_tsIn h 0 (off := 63) 64 hc1 dX5_count_1 (by decide) (by decide) rfl (by decide) ?_
    refine g_aload_n h 0 dX5_count_64 rfl rfl ?_
    refine g_getR h (index := 10) (j := 0) iC_0_0 (C := RX5) (T := TX5) (N := 8) rfl n_X5_count_5 (by decide) rfl (by decide +kernel) dX5_count_65 ?_
    refine g_getI h (v := M 1 0 10) rfl (index := 66) (j := 10) (inS kS1 0 (by decide)) (C := RX4) (T := TX4) (N := 13) rfl n_X5_count_4 (by decide) rfl (by decide +kernel) dX5_count_68 ?_
    refine g_ni (fun v2 => ?_)
    exact g_iret hR rfl dX5_count_71
  refine g_if (fun hc3 => ?_) (fun hc3 => ?_)
  · refine g_tsIn h 1 (off := 71) 72 hc3 dX5_count_1 (by decide) (by decide) rfl (by decide) ?_
    refine g_aload_n h 0 dX5_count_72 rfl rfl ?_
    refine g_getR h (index := 10) (j := 0) iC_0_0 (C := RX5) (T := TX5) (N := 8) rfl n_X5_count_5 (by decide) rfl (by decide +kernel) dX5_count_73 ?_
    refine g_iconst h 0 dX5_count_76 (by decide) ?_
    refine g_iconst h (-1) dX5_count_77 (by decide) ?_
    refine g_callI h (As := [.int 0, .int (-1)]) (fun t => uM M 1 t) (fun r t hG => MI_self (c_X4_conkersBeing l ω 1 kS1 M _ 0 (-1) hG)) (inS kS1 0 (by decide)) (C := RX4) (T := TX4) (N := 13) rfl 2 rfl gX5_count_X4_conkersBeing rfl rfl rfl (by decide +kernel) (by decide) (st0 := _) rfl (Nat.le_of_ble_eq_true rfl) dX5_count_78 (fun r4 M5 => ?_)
    refine g_nm (fun M6 => ?_)
    exact g_iret hR rfl dX5_count_81
  refine g_if (fun hc7 => ?_) (fun hc7 => ?_)
  · refine g_tsIn h 2 (off := 81) 82 hc7 dX5_count_1 (by decide) (by decide) rfl (by decide) ?_
    refine g_aload_n h 0 dX5_count_82 rfl rfl ?_
    refine g_getR h (index := 10) (j := 0) iC_0_0 (C := RX5) (T := TX5) (N := 8) rfl n_X5_count_5 (by decide) rfl (by decide +kernel) dX5_count_83 ?_
    refine g_iconst h 1 dX5_count_86 (by decide) ?_
    refine g_iconst h (-1) dX5_count_87 (by decide) ?_
    refine g_callI h (As := [.int 1, .int (-1)]) (fun t => uM M 1 t) (fun r t hG => MI_self (c_X4_conkersBeing l ω 1 kS1 M _ 1 (-1) hG)) (inS kS1 0 (by decide)) (C := RX4) (T := TX4) (N := 13) rfl 2 rfl gX5_count_X4_conkersBeing rfl rfl rfl (by decide +kernel) (by decide) (st0 := _) rfl (Nat.le_of_ble_eq_true rfl) dX5_count_88 (fun r8 M9 => ?_)
    refine g_nm (fun M10 => ?_)
    exact g_iret hR rfl dX5_count_91
  refine g_if (fun hc11 => ?_) (fun hc11 => ?_)
  · refine g_tsIn h 3 (off := 91) 92 hc11 dX5_count_1 (by decide) (by decide) rfl (by decide) ?_
    refine g_aload_n h 0 dX5_count_92 rfl rfl ?_
    refine g_getR h (index := 10) (j := 0) iC_0_0 (C := RX5) (T := TX5) (N := 8) rfl n_X5_count_5 (by decide) rfl (by decide +kernel) dX5_count_93 ?_
    refine g_iconst h 2 dX5_count_96 (by decide) ?_
    refine g_iconst h (-1) dX5_count_97 (by decide) ?_
    refine g_callI h (As := [.int 2, .int (-1)]) (fun t => uM M 1 t) (fun r t hG => MI_self (c_X4_conkersBeing l ω 1 kS1 M _ 2 (-1) hG)) (inS kS1 0 (by decide)) (C := RX4) (T := TX4) (N := 13) rfl 2 rfl gX5_count_X4_conkersBeing rfl rfl rfl (by decide +kernel) (by decide) (st0 := _) rfl (Nat.le_of_ble_eq_true rfl) dX5_count_98 (fun r12 M13 => ?_)
    refine g_nm (fun M14 => ?_)
    exact g_iret hR rfl dX5_count_101
  refine g_if (fun hc15 => ?_) (fun hc15 => ?_)
  · refine g_tsIn h 4 (off := 101) 102 hc15 dX5_count_1 (by decide) (by decide) rfl (by decide) ?_
    refine g_aload_n h 0 dX5_count_102 rfl rfl ?_
    refine g_getR h (index := 10) (j := 0) iC_0_0 (C := RX5) (T := TX5) (N := 8) rfl n_X5_count_5 (by decide) rfl (by decide +kernel) dX5_count_103 ?_
    refine g_iconst h (-1) dX5_count_106 (by decide) ?_
    refine g_callI h (As := [.int (-1)]) (fun t => uM M 1 t) (fun r t hG => MI_self (c_X4_victoriesOf l ω 1 kS1 M _ (-1) hG)) (inS kS1 0 (by decide)) (C := RX4) (T := TX4) (N := 13) rfl 1 rfl gX5_count_X4_victoriesOf rfl rfl rfl (by decide +kernel) (by decide) (st0 := _) rfl (Nat.le_of_ble_eq_true rfl) dX5_count_107 (fun r16 M17 => ?_)
    refine g_nm (fun M18 => ?_)
    exact g_iret hR rfl dX5_count_110
  refine g_if (fun hc19 => ?_) (fun hc19 => ?_)
  · refine g_tsIn h 5 (off := 110) 111 hc19 dX5_count_1 (by decide) (by decide) rfl (by decide) ?_
    refine g_aload_n h 0 dX5_count_111 rfl rfl ?_
    refine g_getR h (index := 10) (j := 0) iC_0_0 (C := RX5) (T := TX5) (N := 8) rfl n_X5_count_5 (by decide) rfl (by decide +kernel) dX5_count_112 ?_
    refine g_getI h (v := M 1 0 11) rfl (index := 203) (j := 11) (inS kS1 0 (by decide)) (C := RX4) (T := TX4) (N := 13) rfl n_X5_count_4 (by decide) rfl (by decide +kernel) dX5_count_115 ?_
    refine g_ni (fun v20 => ?_)
    exact g_iret hR rfl dX5_count_118
  refine g_if (fun hc21 => ?_) (fun hc21 => ?_)
  · refine g_tsIn h 6 (off := 118) 119 hc21 dX5_count_1 (by decide) (by decide) rfl (by decide) ?_
    refine g_aload_n h 0 dX5_count_119 rfl rfl ?_
    refine g_getR h (index := 10) (j := 0) iC_0_0 (C := RX5) (T := TX5) (N := 8) rfl n_X5_count_5 (by decide) rfl (by decide +kernel) dX5_count_120 ?_
    refine g_getI h (v := M 1 0 12) rfl (index := 206) (j := 12) (inS kS1 0 (by decide)) (C := RX4) (T := TX4) (N := 13) rfl n_X5_count_4 (by decide) rfl (by decide +kernel) dX5_count_123 ?_
    refine g_ni (fun v22 => ?_)
    exact g_iret hR rfl dX5_count_126
  refine g_if (fun hc23 => ?_) (fun hc23 => ?_)
  · refine g_tsIn h 7 (off := 126) 127 hc23 dX5_count_1 (by decide) (by decide) rfl (by decide) ?_
    refine g_aload_n h 0 dX5_count_127 rfl rfl ?_
    refine g_getR h (index := 10) (j := 0) iC_0_0 (C := RX5) (T := TX5) (N := 8) rfl n_X5_count_5 (by decide) rfl (by decide +kernel) dX5_count_128 ?_
    refine g_callI h (As := []) (fun t => uM M 1 t) (fun r t hG => MI_self (c_X4_conkersWithHeir l ω 1 kS1 M _ hG)) (inS kS1 0 (by decide)) (C := RX4) (T := TX4) (N := 13) rfl 0 rfl gX5_count_X4_conkersWithHeir rfl rfl rfl (by decide +kernel) (by decide) (st0 := _) rfl (Nat.le_of_ble_eq_true rfl) dX5_count_131 (fun r24 M25 => ?_)
    refine g_nm (fun M26 => ?_)
    exact g_iret hR rfl dX5_count_134
  refine g_if (fun hc27 => ?_) (fun hc27 => ?_)
  · refine g_tsIn h 8 (off := 134) 135 hc27 dX5_count_1 (by decide) (by decide) rfl (by decide) ?_
    refine g_aload_n h 0 dX5_count_135 rfl rfl ?_
    refine g_getR h (index := 10) (j := 0) iC_0_0 (C := RX5) (T := TX5) (N := 8) rfl n_X5_count_5 (by decide) rfl (by decide +kernel) dX5_count_136 ?_
    refine g_callI h (As := []) (fun t => uM M 1 t) (fun r t hG => MI_self (c_X4_boastsTold l ω 1 kS1 M _ hG)) (inS kS1 0 (by decide)) (C := RX4) (T := TX4) (N := 13) rfl 0 rfl gX5_count_X4_boastsTold rfl rfl rfl (by decide +kernel) (by decide) (st0 := _) rfl (Nat.le_of_ble_eq_true rfl) dX5_count_139 (fun r28 M29 => ?_)
    refine g_nm (fun M30 => ?_)
    exact g_iret hR rfl dX5_count_142
  refine g_if (fun hc31 => ?_) (fun hc31 => ?_)
  · refine g_tsIn h 9 (off := 142) 143 hc31 dX5_count_1 (by decide) (by decide) rfl (by decide) ?_
    refine g_aload_n h 0 dX5_count_143 rfl rfl ?_
    refine g_getR h (index := 10) (j := 0) iC_0_0 (C := RX5) (T := TX5) (N := 8) rfl n_X5_count_5 (by decide) rfl (by decide +kernel) dX5_count_144 ?_
    refine g_callI h (As := []) (fun t => uM M 1 t) (fun r t hG => MI_self (c_X4_boastsTooHigh l ω 1 kS1 M _ hG)) (inS kS1 0 (by decide)) (C := RX4) (T := TX4) (N := 13) rfl 0 rfl gX5_count_X4_boastsTooHigh rfl rfl rfl (by decide +kernel) (by decide) (st0 := _) rfl (Nat.le_of_ble_eq_true rfl) dX5_count_147 (fun r32 M33 => ?_)
    refine g_nm (fun M34 => ?_)
    exact g_iret hR rfl dX5_count_150
  refine g_if (fun hc35 => ?_) (fun hc35 => ?_)
  · refine g_tsIn h 10 (off := 150) 151 hc35 dX5_count_1 (by decide) (by decide) rfl (by decide) ?_
    refine g_aload_n h 0 dX5_count_151 rfl rfl ?_
    refine g_getR h (index := 25) (j := 3) iC_0_0 (C := RX5) (T := TX5) (N := 8) rfl n_X5_count_5 (by decide) rfl (by decide +kernel) dX5_count_152 ?_
    refine g_getI h (v := M 12 0 1) rfl (index := 218) (j := 1) iC_12_0 (C := RX1) (T := TX1) (N := 2) rfl n_X5_count_1 (by decide) rfl (by decide +kernel) dX5_count_155 ?_
    refine g_ni (fun v36 => ?_)
    exact g_iret hR rfl dX5_count_158
  refine g_if (fun hc37 => ?_) (fun hc37 => ?_)
  · refine g_tsIn h 11 (off := 158) 159 hc37 dX5_count_1 (by decide) (by decide) rfl (by decide) ?_
    refine g_aload_n h 0 dX5_count_159 rfl rfl ?_
    refine g_getR h (index := 32) (j := 4) iC_0_0 (C := RX5) (T := TX5) (N := 8) rfl n_X5_count_5 (by decide) rfl (by decide +kernel) dX5_count_160 ?_
    refine g_getI h (v := M 9 0 1) rfl (index := 138) (j := 1) iC_9_0 (C := RX3) (T := TX3) (N := 7) rfl n_X5_count_3 (by decide) rfl (by decide +kernel) dX5_count_163 ?_
    refine g_ni (fun v38 => ?_)
    exact g_iret hR rfl dX5_count_166
  refine g_tsOut h 167 (by
      have e0 : ¬ Int32.toInt a1 = 0 := lv_neT hc1 (by decide)
      have e1 : ¬ Int32.toInt a1 = 1 := lv_neT hc3 (by decide)
      have e2 : ¬ Int32.toInt a1 = 2 := lv_neT hc7 (by decide)
      have e3 : ¬ Int32.toInt a1 = 3 := lv_neT hc11 (by decide)
      have e4 : ¬ Int32.toInt a1 = 4 := lv_neT hc15 (by decide)
      have e5 : ¬ Int32.toInt a1 = 5 := lv_neT hc19 (by decide)
      have e6 : ¬ Int32.toInt a1 = 6 := lv_neT hc21 (by decide)
      have e7 : ¬ Int32.toInt a1 = 7 := lv_neT hc23 (by decide)
      have e8 : ¬ Int32.toInt a1 = 8 := lv_neT hc27 (by decide)
      have e9 : ¬ Int32.toInt a1 = 9 := lv_neT hc31 (by decide)
      have e10 : ¬ Int32.toInt a1 = 10 := lv_neT hc35 (by decide)
      have e11 : ¬ Int32.toInt a1 = 11 := lv_neT hc37 (by decide)
      omega) dX5_count_1 (by decide) ?_
  refine g_bipush h (-2) dX5_count_167 (by decide) ?_
  exact g_iret hR rfl dX5_count_169
set_option maxHeartbeats 4000000 in
set_option maxRecDepth 100000 in
theorem c_X5_isPlayer (l : Launch) (ω : Wd)  (M : Mm) (a0 : Int32) {r : Int32} {M' : Mm} (hm : m_X5_isPlayer a0 M = some (r, M')) : MI l yX5_isPlayer wsX5_isPlayer ⟨1, 0, 0, 22⟩ ω L00 [.int a0] M r M' := by
  refine met_i (cc := cX5_isPlayer) (maxL := 1) (ty := .boolean) (by decide +kernel) rfl (Nat.le_of_ble_eq_true rfl) L00_nd ?_
  intro Γ h hR ht
  suffices K : Gq 0 Γ ω L00 eI 0 [(0, .int a0)] [] M (m_X5_isPlayer a0 M) from K (r, M') hm ht (c0 Γ)
  unfold m_X5_isPlayer
  refine g_iload_n h 0 dX5_isPlayer_0 rfl rfl ?_
  refine g_iconst h 0 dX5_isPlayer_1 (by decide) ?_
  refine g_iconst h 5 dX5_isPlayer_2 (by decide) ?_
  refine g_callP h (As := [.int a0, .int 0, .int 5]) (fun r t hG => c_X5_isWithin l ω M00 a0 0 5 hG) 3 rfl gX5_isPlayer_X5_isWithin rfl rfl rfl (by decide +kernel) (by decide) (st0 := _) rfl (Nat.le_of_ble_eq_true rfl) dX5_isPlayer_3 (fun r1 => ?_)
  exact g_nret hR (fun _ => rfl) dX5_isPlayer_6
theorem n_X5_doubt_4 : ∀ w ∈ wsX40, w ∈ wsX5_doubt := by decide +kernel
theorem n_X5_doubt_5 : ∀ w ∈ wsX50, w ∈ wsX5_doubt := by decide +kernel
set_option maxHeartbeats 4000000 in
set_option maxRecDepth 100000 in
theorem c_X5_doubt (l : Launch) (ω : Wd)  (M : Mm) (a1 : Int32) (a2 : Int32) {r : Int32} {M' : Mm} (hm : m_X5_doubt a1 a2 M = some (r, M')) : MI l yX5_doubt wsX5_doubt ⟨3, 0, 0, 82⟩ ω LC [.ref (th ω 0 0), .int a1, .int a2] M r M' := by
  refine met_i (cc := cX5_doubt) (maxL := 3) (ty := .int) (by decide +kernel) rfl (Nat.le_of_ble_eq_true rfl) LC_nd ?_
  intro Γ h hR ht
  suffices K : Gq 0 Γ ω LC eI 0 [(0, .ref (th ω 0 0)), (1, .int a1), (2, .int a2)] [] M (m_X5_doubt a1 a2 M) from K (r, M') hm ht (c0 Γ)
  unfold m_X5_doubt
  refine g_iload_n h 1 dX5_doubt_0 rfl rfl ?_
  refine g_callP h (As := [.int a1]) (fun r t hG => c_X5_isPlayer l ω M00 a1 hG) 1 rfl gX5_doubt_X5_isPlayer rfl rfl rfl (by decide +kernel) (by decide) (st0 := _) rfl (Nat.le_of_ble_eq_true rfl) dX5_doubt_1 (fun r1 => ?_)
  refine g_if_eq h 18 dX5_doubt_4 (by decide) (fun hc2 => ?_) (fun hc2 => ?_)
  · skip
    refine g_iconst h (-1) dX5_doubt_18 (by decide) ?_
    exact g_iret hR rfl dX5_doubt_19
  · skip
    refine g_aload_n h 0 dX5_doubt_7 rfl rfl ?_
    refine g_getR h (index := 10) (j := 0) iC_0_0 (C := RX5) (T := TX5) (N := 8) rfl n_X5_doubt_5 (by decide) rfl (by decide +kernel) dX5_doubt_8 ?_
    refine g_iload_n h 2 dX5_doubt_11 rfl rfl ?_
    refine g_callI h (As := [.int a2]) (fun t => uM M 1 t) (fun r t hG => MI_self (c_X4_hasConker l ω 1 kS1 M _ a2 hG)) (inS kS1 0 (by decide)) (C := RX4) (T := TX4) (N := 13) rfl 1 rfl gX5_doubt_X4_hasConker rfl rfl rfl (by decide +kernel) (by decide) (st0 := _) rfl (Nat.le_of_ble_eq_true rfl) dX5_doubt_12 (fun r3 M4 => ?_)
    refine g_nm (fun M5 => ?_)
    refine g_if_ne h 20 dX5_doubt_15 (by decide) (fun hc6 => ?_) (fun hc6 => ?_)
    · skip
      refine g_iconst h (-1) dX5_doubt_18 (by decide) ?_
      exact g_iret hR rfl dX5_doubt_19
    · skip
      refine g_aload_n h 0 dX5_doubt_20 rfl rfl ?_
      refine g_getR h (index := 10) (j := 0) iC_0_0 (C := RX5) (T := TX5) (N := 8) rfl n_X5_doubt_5 (by decide) rfl (by decide +kernel) dX5_doubt_21 ?_
      refine g_getR h (index := 107) (j := 2) (inS kS1 0 (by decide)) (C := RX4) (T := TX4) (N := 13) rfl n_X5_doubt_4 (by decide) rfl (by decide +kernel) dX5_doubt_24 ?_
      refine g_iload_n h 2 dX5_doubt_27 rfl rfl ?_
      refine g_iald h (v := M5 1 3 a2.toNatClampNeg) rfl (inS kS1 3 (by decide)) dX5_doubt_28 ?_
      refine g_ni (fun v7 => ?_)
      refine g_iload_n h 1 dX5_doubt_29 rfl rfl ?_
      refine g_icmp_ne h 36 dX5_doubt_30 (by decide) (fun hc8 => ?_) (fun hc8 => ?_)
      · skip
        refine g_bipush h (-2) dX5_doubt_33 (by decide) ?_
        exact g_iret hR rfl dX5_doubt_35
      · skip
        refine g_aload_n h 0 dX5_doubt_36 rfl rfl ?_
        refine g_getR h (index := 10) (j := 0) iC_0_0 (C := RX5) (T := TX5) (N := 8) rfl n_X5_doubt_5 (by decide) rfl (by decide +kernel) dX5_doubt_37 ?_
        refine g_getR h (index := 104) (j := 7) (inS kS1 0 (by decide)) (C := RX4) (T := TX4) (N := 13) rfl n_X5_doubt_4 (by decide) rfl (by decide +kernel) dX5_doubt_40 ?_
        refine g_iload_n h 2 dX5_doubt_43 rfl rfl ?_
        refine g_iald h (v := M5 1 8 a2.toNatClampNeg) rfl (inS kS1 8 (by decide)) dX5_doubt_44 ?_
        refine g_ni (fun v9 => ?_)
        refine g_bipush h (-5) dX5_doubt_45 (by decide) ?_
        refine g_icmp_ne h 53 dX5_doubt_47 (by decide) (fun hc10 => ?_) (fun hc10 => ?_)
        · skip
          refine g_bipush h (-4) dX5_doubt_50 (by decide) ?_
          exact g_iret hR rfl dX5_doubt_52
        · skip
          refine g_aload_n h 0 dX5_doubt_53 rfl rfl ?_
          refine g_getR h (index := 25) (j := 3) iC_0_0 (C := RX5) (T := TX5) (N := 8) rfl n_X5_doubt_5 (by decide) rfl (by decide +kernel) dX5_doubt_54 ?_
          refine g_aload_n h 0 dX5_doubt_57 rfl rfl ?_
          refine g_getR h (index := 10) (j := 0) iC_0_0 (C := RX5) (T := TX5) (N := 8) rfl n_X5_doubt_5 (by decide) rfl (by decide +kernel) dX5_doubt_58 ?_
          refine g_callV h (As := [.ref (th ω 1 0)]) (fun t => t) (fun r t hG => c_X1_keep l ω _ hG) iC_12_0 (C := RX1) (T := TX1) (N := 2) rfl 1 rfl gX5_doubt_X1_keep rfl rfl rfl (by decide +kernel) (by decide) (st0 := _) rfl (Nat.le_of_ble_eq_true rfl) dX5_doubt_61 (fun r11 M12 => ?_)
          refine g_aload_n h 0 dX5_doubt_64 rfl rfl ?_
          refine g_getR h (index := 10) (j := 0) iC_0_0 (C := RX5) (T := TX5) (N := 8) rfl n_X5_doubt_5 (by decide) rfl (by decide +kernel) dX5_doubt_65 ?_
          refine g_iload_n h 1 dX5_doubt_68 rfl rfl ?_
          refine g_iload_n h 2 dX5_doubt_69 rfl rfl ?_
          refine g_callI h (As := [.int a1, .int a2]) (fun t => uM M12 1 t) (fun r t hG => MI_self (c_X4_settleBoast l ω 1 kS1 M12 _ a1 a2 hG)) (inS kS1 0 (by decide)) (C := RX4) (T := TX4) (N := 13) rfl 2 rfl gX5_doubt_X4_settleBoast rfl rfl rfl (by decide +kernel) (by decide) (st0 := _) rfl (Nat.le_of_ble_eq_true rfl) dX5_doubt_70 (fun r13 M14 => ?_)
          refine g_nm (fun M15 => ?_)
          exact g_iret hR rfl dX5_doubt_73
theorem n_X5_give_4 : ∀ w ∈ wsX40, w ∈ wsX5_give := by decide +kernel
theorem n_X5_give_5 : ∀ w ∈ wsX50, w ∈ wsX5_give := by decide +kernel
set_option maxHeartbeats 4000000 in
set_option maxRecDepth 100000 in
theorem c_X5_give (l : Launch) (ω : Wd)  (M : Mm) (a1 : Int32) (a2 : Int32) {r : Int32} {M' : Mm} (hm : m_X5_give a1 a2 M = some (r, M')) : MI l yX5_give wsX5_give ⟨3, 0, 0, 82⟩ ω LC [.ref (th ω 0 0), .int a1, .int a2] M r M' := by
  refine met_i (cc := cX5_give) (maxL := 3) (ty := .int) (by decide +kernel) rfl (Nat.le_of_ble_eq_true rfl) LC_nd ?_
  intro Γ h hR ht
  suffices K : Gq 0 Γ ω LC eI 0 [(0, .ref (th ω 0 0)), (1, .int a1), (2, .int a2)] [] M (m_X5_give a1 a2 M) from K (r, M') hm ht (c0 Γ)
  unfold m_X5_give
  refine g_iload_n h 1 dX5_give_0 rfl rfl ?_
  refine g_callP h (As := [.int a1]) (fun r t hG => c_X5_isPlayer l ω M00 a1 hG) 1 rfl gX5_give_X5_isPlayer rfl rfl rfl (by decide +kernel) (by decide) (st0 := _) rfl (Nat.le_of_ble_eq_true rfl) dX5_give_1 (fun r1 => ?_)
  refine g_if_ne h 9 dX5_give_4 (by decide) (fun hc2 => ?_) (fun hc2 => ?_)
  · skip
    refine g_iconst h (-1) dX5_give_7 (by decide) ?_
    exact g_iret hR rfl dX5_give_8
  · skip
    refine g_iload_n h 2 dX5_give_9 rfl rfl ?_
    refine g_iconst h 1 dX5_give_10 (by decide) ?_
    refine g_bipush h 9 dX5_give_11 (by decide) ?_
    refine g_callP h (As := [.int a2, .int 1, .int 9]) (fun r t hG => c_X5_isWithin l ω M00 a2 1 9 hG) 3 rfl gX5_give_X5_isWithin rfl rfl rfl (by decide +kernel) (by decide) (st0 := _) rfl (Nat.le_of_ble_eq_true rfl) dX5_give_13 (fun r3 => ?_)
    refine g_if_ne h 22 dX5_give_16 (by decide) (fun hc4 => ?_) (fun hc4 => ?_)
    · skip
      refine g_bipush h (-2) dX5_give_19 (by decide) ?_
      exact g_iret hR rfl dX5_give_21
    · skip
      refine g_aload_n h 0 dX5_give_22 rfl rfl ?_
      refine g_getR h (index := 10) (j := 0) iC_0_0 (C := RX5) (T := TX5) (N := 8) rfl n_X5_give_5 (by decide) rfl (by decide +kernel) dX5_give_23 ?_
      refine g_getR h (index := 62) (j := 0) (inS kS1 0 (by decide)) (C := RX4) (T := TX4) (N := 13) rfl n_X5_give_4 (by decide) rfl (by decide +kernel) dX5_give_26 ?_
      refine g_iload_n h 1 dX5_give_29 rfl rfl ?_
      refine g_iald h (v := M 1 1 a1.toNatClampNeg) rfl (inS kS1 1 (by decide)) dX5_give_30 ?_
      refine g_ni (fun v5 => ?_)
      refine g_iload_n h 2 dX5_give_31 rfl rfl ?_
      refine g_iadd h dX5_give_32 ?_
      refine g_bipush h 20 dX5_give_33 (by decide) ?_
      refine g_icmp_le h 41 dX5_give_35 (by decide) (fun hc6 => ?_) (fun hc6 => ?_)
      · skip
        refine g_aload_n h 0 dX5_give_41 rfl rfl ?_
        refine g_getR h (index := 25) (j := 3) iC_0_0 (C := RX5) (T := TX5) (N := 8) rfl n_X5_give_5 (by decide) rfl (by decide +kernel) dX5_give_42 ?_
        refine g_aload_n h 0 dX5_give_45 rfl rfl ?_
        refine g_getR h (index := 10) (j := 0) iC_0_0 (C := RX5) (T := TX5) (N := 8) rfl n_X5_give_5 (by decide) rfl (by decide +kernel) dX5_give_46 ?_
        refine g_callV h (As := [.ref (th ω 1 0)]) (fun t => t) (fun r t hG => c_X1_keep l ω _ hG) iC_12_0 (C := RX1) (T := TX1) (N := 2) rfl 1 rfl gX5_give_X1_keep rfl rfl rfl (by decide +kernel) (by decide) (st0 := _) rfl (Nat.le_of_ble_eq_true rfl) dX5_give_49 (fun r7 M8 => ?_)
        refine g_aload_n h 0 dX5_give_52 rfl rfl ?_
        refine g_getR h (index := 10) (j := 0) iC_0_0 (C := RX5) (T := TX5) (N := 8) rfl n_X5_give_5 (by decide) rfl (by decide +kernel) dX5_give_53 ?_
        refine g_getR h (index := 62) (j := 0) (inS kS1 0 (by decide)) (C := RX4) (T := TX4) (N := 13) rfl n_X5_give_4 (by decide) rfl (by decide +kernel) dX5_give_56 ?_
        refine g_iload_n h 1 dX5_give_59 rfl rfl ?_
        refine g_dup2 h dX5_give_60 rfl rfl ?_
        refine g_iald h (v := M8 1 1 a1.toNatClampNeg) rfl (inS kS1 1 (by decide)) dX5_give_61 ?_
        refine g_ni (fun v9 => ?_)
        refine g_iload_n h 2 dX5_give_62 rfl rfl ?_
        refine g_iadd h dX5_give_63 ?_
        refine g_iast h (x' := wM M8 1 1 a1.toNatClampNeg (v9 + a2)) rfl (inS kS1 1 (by decide)) dX5_give_64 ?_
        refine g_nm (fun M10 => ?_)
        refine g_aload_n h 0 dX5_give_65 rfl rfl ?_
        refine g_getR h (index := 10) (j := 0) iC_0_0 (C := RX5) (T := TX5) (N := 8) rfl n_X5_give_5 (by decide) rfl (by decide +kernel) dX5_give_66 ?_
        refine g_getR h (index := 62) (j := 0) (inS kS1 0 (by decide)) (C := RX4) (T := TX4) (N := 13) rfl n_X5_give_4 (by decide) rfl (by decide +kernel) dX5_give_69 ?_
        refine g_iload_n h 1 dX5_give_72 rfl rfl ?_
        refine g_iald h (v := M10 1 1 a1.toNatClampNeg) rfl (inS kS1 1 (by decide)) dX5_give_73 ?_
        refine g_ni (fun v11 => ?_)
        exact g_iret hR rfl dX5_give_74
      · skip
        refine g_bipush h (-3) dX5_give_38 (by decide) ?_
        exact g_iret hR rfl dX5_give_40
theorem n_X5_tryHit_5 : ∀ w ∈ wsX50, w ∈ wsX5_tryHit := by decide +kernel
set_option maxHeartbeats 4000000 in
set_option maxRecDepth 100000 in
theorem c_X5_tryHit (l : Launch) (ω : Wd)  (M : Mm) (a1 : Int32) (a2 : Int32) (a3 : Int32) {r : Int32} {M' : Mm} (hm : m_X5_tryHit a1 a2 a3 M = some (r, M')) : MI l yX5_tryHit wsX5_tryHit ⟨4, 0, 0, 93⟩ ω LC [.ref (th ω 0 0), .int a1, .int a2, .int a3] M r M' := by
  refine met_i (cc := cX5_tryHit) (maxL := 4) (ty := .int) (by decide +kernel) rfl (Nat.le_of_ble_eq_true rfl) LC_nd ?_
  intro Γ h hR ht
  suffices K : Gq 0 Γ ω LC eI 0 [(0, .ref (th ω 0 0)), (1, .int a1), (2, .int a2), (3, .int a3)] [] M (m_X5_tryHit a1 a2 a3 M) from K (r, M') hm ht (c0 Γ)
  unfold m_X5_tryHit
  refine g_aload_n h 0 dX5_tryHit_0 rfl rfl ?_
  refine g_getR h (index := 19) (j := 2) iC_0_0 (C := RX5) (T := TX5) (N := 8) rfl n_X5_tryHit_5 (by decide) rfl (by decide +kernel) dX5_tryHit_1 ?_
  refine g_aload_n h 0 dX5_tryHit_4 rfl rfl ?_
  refine g_getR h (index := 10) (j := 0) iC_0_0 (C := RX5) (T := TX5) (N := 8) rfl n_X5_tryHit_5 (by decide) rfl (by decide +kernel) dX5_tryHit_5 ?_
  refine g_callV h (As := [.ref (th ω 1 0)]) (fun t => t) (fun r t hG => c_X4_copyFrom l ω 3 1 kS3 kS1 _ hG) (inS kS3 0 (by decide)) (C := RX4) (T := TX4) (N := 13) rfl 1 rfl gX5_tryHit_X4_copyFrom rfl rfl rfl (by decide +kernel) (by decide) (st0 := _) rfl (Nat.le_of_ble_eq_true rfl) dX5_tryHit_8 (fun r1 M2 => ?_)
  refine g_aload_n h 0 dX5_tryHit_11 rfl rfl ?_
  refine g_getR h (index := 19) (j := 2) iC_0_0 (C := RX5) (T := TX5) (N := 8) rfl n_X5_tryHit_5 (by decide) rfl (by decide +kernel) dX5_tryHit_12 ?_
  refine g_iload_n h 1 dX5_tryHit_15 rfl rfl ?_
  refine g_iload_n h 2 dX5_tryHit_16 rfl rfl ?_
  refine g_iload_n h 3 dX5_tryHit_17 rfl rfl ?_
  refine g_callI h (As := [.int a1, .int a2, .int a3]) (fun t => uM M2 3 t) (fun r t hG => MI_self (c_X4_hit l ω 3 kS3 M2 _ a1 a2 a3 hG)) (inS kS3 0 (by decide)) (C := RX4) (T := TX4) (N := 13) rfl 3 rfl gX5_tryHit_X4_hit rfl rfl rfl (by decide +kernel) (by decide) (st0 := _) rfl (Nat.le_of_ble_eq_true rfl) dX5_tryHit_18 (fun r3 M4 => ?_)
  refine g_nm (fun M5 => ?_)
  exact g_iret hR rfl dX5_tryHit_21
theorem n_X5_ifStruck_5 : ∀ w ∈ wsX50, w ∈ wsX5_ifStruck := by decide +kernel
set_option maxHeartbeats 4000000 in
set_option maxRecDepth 100000 in
theorem c_X5_ifStruck (l : Launch) (ω : Wd)  (M : Mm) (a1 : Int32) (a2 : Int32) (a3 : Int32) {r : Int32} {M' : Mm} (hm : m_X5_ifStruck a1 a2 a3 M = some (r, M')) : MI l yX5_ifStruck wsX5_ifStruck ⟨5, 0, 0, 116⟩ ω LC [.ref (th ω 0 0), .int a1, .int a2, .int a3] M r M' := by
  refine met_i (cc := cX5_ifStruck) (maxL := 5) (ty := .int) (by decide +kernel) rfl (Nat.le_of_ble_eq_true rfl) LC_nd ?_
  intro Γ h hR ht
  suffices K : Gq 0 Γ ω LC eI 0 [(0, .ref (th ω 0 0)), (1, .int a1), (2, .int a2), (3, .int a3)] [] M (m_X5_ifStruck a1 a2 a3 M) from K (r, M') hm ht (c0 Γ)
  unfold m_X5_ifStruck
  refine g_aload_n h 0 dX5_ifStruck_0 rfl rfl ?_
  refine g_getR h (index := 10) (j := 0) iC_0_0 (C := RX5) (T := TX5) (N := 8) rfl n_X5_ifStruck_5 (by decide) rfl (by decide +kernel) dX5_ifStruck_1 ?_
  refine g_iload_n h 1 dX5_ifStruck_4 rfl rfl ?_
  refine g_iload_n h 2 dX5_ifStruck_5 rfl rfl ?_
  refine g_iload_n h 3 dX5_ifStruck_6 rfl rfl ?_
  refine g_callI h (As := [.int a1, .int a2, .int a3]) (fun t => uM M 1 t) (fun r t hG => MI_self (c_X4_strikeError l ω 1 kS1 M _ a1 a2 a3 hG)) (inS kS1 0 (by decide)) (C := RX4) (T := TX4) (N := 13) rfl 3 rfl gX5_ifStruck_X4_strikeError rfl rfl rfl (by decide +kernel) (by decide) (st0 := _) rfl (Nat.le_of_ble_eq_true rfl) dX5_ifStruck_7 (fun r1 M2 => ?_)
  refine g_nm (fun M3 => ?_)
  refine g_istore h (lv' := [(4, .int r1), (0, .ref (th ω 0 0)), (1, .int a1), (2, .int a2), (3, .int a3)]) dX5_ifStruck_10 (by decide) [0, 1, 2, 3, 4] rfl ?_
  refine g_iload h 0 dX5_ifStruck_12 rfl ?_
  refine g_if_eq h 20 dX5_ifStruck_14 (by decide) (fun hc4 => ?_) (fun hc4 => ?_)
  · skip
    refine g_aload_n h 1 dX5_ifStruck_20 rfl rfl ?_
    refine g_iload_n h 2 dX5_ifStruck_21 rfl rfl ?_
    refine g_iload_n h 3 dX5_ifStruck_22 rfl rfl ?_
    refine g_iload_n h 4 dX5_ifStruck_23 rfl rfl ?_
    refine g_callI h (As := [.int a1, .int a2, .int a3]) (fun t => t) (fun r t hG => c_X5_tryHit l ω _ a1 a2 a3 hG) iC_0_0 (C := RX5) (T := TX5) (N := 8) rfl 3 rfl gX5_ifStruck_X5_tryHit rfl rfl rfl (by decide +kernel) (by decide) (st0 := _) rfl (Nat.le_of_ble_eq_true rfl) dX5_ifStruck_24 (fun r5 M6 => ?_)
    exact g_iret hR rfl dX5_ifStruck_27
  · skip
    refine g_iload h 0 dX5_ifStruck_17 rfl ?_
    exact g_iret hR rfl dX5_ifStruck_19
theorem n_X5_leastSwing_5 : ∀ w ∈ wsX50, w ∈ wsX5_leastSwing := by decide +kernel
set_option maxHeartbeats 4000000 in
set_option maxRecDepth 100000 in
theorem b_X5_leastSwing_20 {Γ : Cx} {l : Launch} {ω : Wd}  (h : CxOk Γ l ⟨5, 0, 0, 116⟩ 6 ω LC cX5_leastSwing yX5_leastSwing.cls wsX5_leastSwing) (hR : RetI Γ ω LC cX5_leastSwing .int) : ∀ (n : Nat) (b1 : Int32) (b2 : Int32) (b4 : Int32) (M : Mm), Gq 0 Γ ω LC eI 20 [(0, .ref (th ω 0 0)), (1, .int b1), (2, .int b2), (4, .int b4)] [] M (m_X5_leastSwing_20 n b1 b2 b4 M) := by
  intro n
  induction n with
  | zero =>
    intro b1 b2 b4 M
    rw [m_X5_leastSwing_20.eq_1]
    exact g_none
  | succ n ih =>
    intro b1 b2 b4 M
    rw [m_X5_leastSwing_20.eq_2]
    refine g_iload h 3 dX5_leastSwing_20 rfl ?_
    refine g_bipush h 9 dX5_leastSwing_22 (by decide) ?_
    refine g_icmp_gt h 54 dX5_leastSwing_24 (by decide) (fun hc1 => ?_) (fun hc1 => ?_)
    · skip
      refine g_bipush h (-5) dX5_leastSwing_54 (by decide) ?_
      exact g_iret hR rfl dX5_leastSwing_56
    · skip
      refine g_aload_n h 0 dX5_leastSwing_27 rfl rfl ?_
      refine g_iload_n h 1 dX5_leastSwing_28 rfl rfl ?_
      refine g_iload_n h 2 dX5_leastSwing_29 rfl rfl ?_
      refine g_iload h 3 dX5_leastSwing_30 rfl ?_
      refine g_callI h (As := [.int b1, .int b2, .int b4]) (fun t => t) (fun r t hG => c_X5_tryHit l ω _ b1 b2 b4 hG) iC_0_0 (C := RX5) (T := TX5) (N := 8) rfl 3 rfl gX5_leastSwing_X5_tryHit rfl rfl rfl (by decide +kernel) (by decide) (st0 := _) rfl (Nat.le_of_ble_eq_true rfl) dX5_leastSwing_32 (fun r2 M3 => ?_)
      refine g_iconst h 3 dX5_leastSwing_35 (by decide) ?_
      refine g_iand h dX5_leastSwing_36 ?_
      refine g_istore h (lv' := [(5, .int (r2 &&& 3)), (0, .ref (th ω 0 0)), (1, .int b1), (2, .int b2), (4, .int b4)]) dX5_leastSwing_37 (by decide) [0, 1, 2, 3, 4] rfl ?_
      refine g_iload h 0 dX5_leastSwing_39 rfl ?_
      refine g_iconst h 2 dX5_leastSwing_41 (by decide) ?_
      refine g_icmp_ne h 48 dX5_leastSwing_42 (by decide) (fun hc4 => ?_) (fun hc4 => ?_)
      · skip
        refine g_iload h 4 dX5_leastSwing_45 rfl ?_
        exact g_iret hR rfl dX5_leastSwing_47
      · skip
        refine g_iinc h (b4 + 1) (lv' := [(4, .int (b4 + 1)), (5, .int (r2 &&& 3)), (0, .ref (th ω 0 0)), (1, .int b1), (2, .int b2)]) dX5_leastSwing_48 4 rfl (congrArg (fun z => b4 + z) (by decide)) (by decide) [0, 1, 2, 3, 4] rfl ?_
        refine g_goto h (tgt := 20) dX5_leastSwing_51 (by decide) ?_
        refine g_sub (lv' := [(0, .ref (th ω 0 0)), (1, .int b1), (2, .int b2), (4, .int (b4 + 1))]) [2, 3, 4, 0] rfl ?_
        exact ih _ _ _ _
set_option maxHeartbeats 4000000 in
set_option maxRecDepth 100000 in
theorem c_X5_leastSwing (l : Launch) (ω : Wd)  (M : Mm) (a1 : Int32) (a2 : Int32) {r : Int32} {M' : Mm} (hm : m_X5_leastSwing a1 a2 M = some (r, M')) : MI l yX5_leastSwing wsX5_leastSwing ⟨5, 0, 0, 116⟩ ω LC [.ref (th ω 0 0), .int a1, .int a2] M r M' := by
  refine met_i (cc := cX5_leastSwing) (maxL := 6) (ty := .int) (by decide +kernel) rfl (Nat.le_of_ble_eq_true rfl) LC_nd ?_
  intro Γ h hR ht
  suffices K : Gq 0 Γ ω LC eI 0 [(0, .ref (th ω 0 0)), (1, .int a1), (2, .int a2)] [] M (m_X5_leastSwing a1 a2 M) from K (r, M') hm ht (c0 Γ)
  unfold m_X5_leastSwing
  refine g_aload_n h 0 dX5_leastSwing_0 rfl rfl ?_
  refine g_getR h (index := 10) (j := 0) iC_0_0 (C := RX5) (T := TX5) (N := 8) rfl n_X5_leastSwing_5 (by decide) rfl (by decide +kernel) dX5_leastSwing_1 ?_
  refine g_iload_n h 1 dX5_leastSwing_4 rfl rfl ?_
  refine g_iload_n h 2 dX5_leastSwing_5 rfl rfl ?_
  refine g_iconst h 1 dX5_leastSwing_6 (by decide) ?_
  refine g_callI h (As := [.int a1, .int a2, .int 1]) (fun t => uM M 1 t) (fun r t hG => MI_self (c_X4_strikeError l ω 1 kS1 M _ a1 a2 1 hG)) (inS kS1 0 (by decide)) (C := RX4) (T := TX4) (N := 13) rfl 3 rfl gX5_leastSwing_X4_strikeError rfl rfl rfl (by decide +kernel) (by decide) (st0 := _) rfl (Nat.le_of_ble_eq_true rfl) dX5_leastSwing_7 (fun r1 M2 => ?_)
  refine g_nm (fun M3 => ?_)
  refine g_istore_n h rfl (lv' := [(3, .int r1), (0, .ref (th ω 0 0)), (1, .int a1), (2, .int a2)]) dX5_leastSwing_10 (by decide) [0, 1, 2, 3] rfl ?_
  refine g_iload_n h 0 dX5_leastSwing_11 rfl rfl ?_
  refine g_if_eq h 17 dX5_leastSwing_12 (by decide) (fun hc4 => ?_) (fun hc4 => ?_)
  · skip
    refine g_iconst h 1 dX5_leastSwing_17 (by decide) ?_
    refine g_istore h (lv' := [(4, .int 1), (3, .int r1), (0, .ref (th ω 0 0)), (1, .int a1), (2, .int a2)]) dX5_leastSwing_18 (by decide) [0, 1, 2, 3, 4] rfl ?_
    refine g_sub (lv' := [(0, .ref (th ω 0 0)), (1, .int a1), (2, .int a2), (4, .int 1)]) [2, 3, 4, 0] rfl ?_
    exact b_X5_leastSwing_20 h hR fu _ _ _ _
  · skip
    refine g_iload_n h 0 dX5_leastSwing_15 rfl rfl ?_
    exact g_iret hR rfl dX5_leastSwing_16
theorem n_X5_line_5 : ∀ w ∈ wsX50, w ∈ wsX5_line := by decide +kernel
set_option maxHeartbeats 4000000 in
set_option maxRecDepth 100000 in
theorem c_X5_line (l : Launch) (ω : Wd)  (M : Mm) (a1 : Int32) {r : Int32} {M' : Mm} (hm : m_X5_line a1 M = some (r, M')) : MI l yX5_line wsX5_line ⟨4, 0, 0, 90⟩ ω LC [.ref (th ω 0 0), .int a1] M r M' := by
  refine met_i (cc := cX5_line) (maxL := 2) (ty := .int) (by decide +kernel) rfl (Nat.le_of_ble_eq_true rfl) LC_nd ?_
  intro Γ h hR ht
  suffices K : Gq 0 Γ ω LC eI 0 [(0, .ref (th ω 0 0)), (1, .int a1)] [] M (m_X5_line a1 M) from K (r, M') hm ht (c0 Γ)
  unfold m_X5_line
  refine g_aload_n h 0 dX5_line_0 rfl rfl ?_
  refine g_getR h (index := 10) (j := 0) iC_0_0 (C := RX5) (T := TX5) (N := 8) rfl n_X5_line_5 (by decide) rfl (by decide +kernel) dX5_line_1 ?_
  refine g_iload_n h 1 dX5_line_4 rfl rfl ?_
  refine g_callI h (As := [.int a1]) (fun t => uM M 1 t) (fun r t hG => MI_self (c_X4_hasConker l ω 1 kS1 M _ a1 hG)) (inS kS1 0 (by decide)) (C := RX4) (T := TX4) (N := 13) rfl 1 rfl gX5_line_X4_hasConker rfl rfl rfl (by decide +kernel) (by decide) (st0 := _) rfl (Nat.le_of_ble_eq_true rfl) dX5_line_5 (fun r1 M2 => ?_)
  refine g_nm (fun M3 => ?_)
  refine g_if_ne h 13 dX5_line_8 (by decide) (fun hc4 => ?_) (fun hc4 => ?_)
  · skip
    refine g_iconst h (-1) dX5_line_11 (by decide) ?_
    exact g_iret hR rfl dX5_line_12
  · skip
    refine g_aload_n h 0 dX5_line_13 rfl rfl ?_
    refine g_getR h (index := 10) (j := 0) iC_0_0 (C := RX5) (T := TX5) (N := 8) rfl n_X5_line_5 (by decide) rfl (by decide +kernel) dX5_line_14 ?_
    refine g_iload_n h 1 dX5_line_17 rfl rfl ?_
    refine g_callI h (As := [.int a1]) (fun t => uM M3 1 t) (fun r t hG => MI_self (c_X4_lengthOfLine l ω 1 kS1 M3 _ a1 hG)) (inS kS1 0 (by decide)) (C := RX4) (T := TX4) (N := 13) rfl 1 rfl gX5_line_X4_lengthOfLine rfl rfl rfl (by decide +kernel) (by decide) (st0 := _) rfl (Nat.le_of_ble_eq_true rfl) dX5_line_18 (fun r5 M6 => ?_)
    refine g_nm (fun M7 => ?_)
    exact g_iret hR rfl dX5_line_21
theorem n_X5_mend_5 : ∀ w ∈ wsX50, w ∈ wsX5_mend := by decide +kernel
set_option maxHeartbeats 4000000 in
set_option maxRecDepth 100000 in
theorem c_X5_mend (l : Launch) (ω : Wd)  (M : Mm) (a1 : Int32) {r : Int32} {M' : Mm} (hm : m_X5_mend a1 M = some (r, M')) : MI l yX5_mend wsX5_mend ⟨4, 0, 0, 86⟩ ω LC [.ref (th ω 0 0), .int a1] M r M' := by
  refine met_i (cc := cX5_mend) (maxL := 3) (ty := .int) (by decide +kernel) rfl (Nat.le_of_ble_eq_true rfl) LC_nd ?_
  intro Γ h hR ht
  suffices K : Gq 0 Γ ω LC eI 0 [(0, .ref (th ω 0 0)), (1, .int a1)] [] M (m_X5_mend a1 M) from K (r, M') hm ht (c0 Γ)
  unfold m_X5_mend
  refine g_aload_n h 0 dX5_mend_0 rfl rfl ?_
  refine g_getR h (index := 10) (j := 0) iC_0_0 (C := RX5) (T := TX5) (N := 8) rfl n_X5_mend_5 (by decide) rfl (by decide +kernel) dX5_mend_1 ?_
  refine g_iload_n h 1 dX5_mend_4 rfl rfl ?_
  refine g_callI h (As := [.int a1]) (fun t => uM M 1 t) (fun r t hG => MI_self (c_X4_mendError l ω 1 kS1 M _ a1 hG)) (inS kS1 0 (by decide)) (C := RX4) (T := TX4) (N := 13) rfl 1 rfl gX5_mend_X4_mendError rfl rfl rfl (by decide +kernel) (by decide) (st0 := _) rfl (Nat.le_of_ble_eq_true rfl) dX5_mend_5 (fun r1 M2 => ?_)
  refine g_nm (fun M3 => ?_)
  refine g_istore_n h rfl (lv' := [(2, .int r1), (0, .ref (th ω 0 0)), (1, .int a1)]) dX5_mend_8 (by decide) [0, 1, 2] rfl ?_
  refine g_iload_n h 0 dX5_mend_9 rfl rfl ?_
  refine g_if_eq h 15 dX5_mend_10 (by decide) (fun hc4 => ?_) (fun hc4 => ?_)
  · skip
    refine g_aload_n h 1 dX5_mend_15 rfl rfl ?_
    refine g_getR h (index := 25) (j := 3) iC_0_0 (C := RX5) (T := TX5) (N := 8) rfl n_X5_mend_5 (by decide) rfl (by decide +kernel) dX5_mend_16 ?_
    refine g_aload_n h 1 dX5_mend_19 rfl rfl ?_
    refine g_getR h (index := 10) (j := 0) iC_0_0 (C := RX5) (T := TX5) (N := 8) rfl n_X5_mend_5 (by decide) rfl (by decide +kernel) dX5_mend_20 ?_
    refine g_callV h (As := [.ref (th ω 1 0)]) (fun t => t) (fun r t hG => c_X1_keep l ω _ hG) iC_12_0 (C := RX1) (T := TX1) (N := 2) rfl 1 rfl gX5_mend_X1_keep rfl rfl rfl (by decide +kernel) (by decide) (st0 := _) rfl (Nat.le_of_ble_eq_true rfl) dX5_mend_23 (fun r5 M6 => ?_)
    refine g_aload_n h 1 dX5_mend_26 rfl rfl ?_
    refine g_getR h (index := 10) (j := 0) iC_0_0 (C := RX5) (T := TX5) (N := 8) rfl n_X5_mend_5 (by decide) rfl (by decide +kernel) dX5_mend_27 ?_
    refine g_iload_n h 2 dX5_mend_30 rfl rfl ?_
    refine g_callI h (As := [.int a1]) (fun t => uM M6 1 t) (fun r t hG => MI_self (c_X4_threadAgain l ω 1 kS1 M6 _ a1 hG)) (inS kS1 0 (by decide)) (C := RX4) (T := TX4) (N := 13) rfl 1 rfl gX5_mend_X4_threadAgain rfl rfl rfl (by decide +kernel) (by decide) (st0 := _) rfl (Nat.le_of_ble_eq_true rfl) dX5_mend_31 (fun r7 M8 => ?_)
    refine g_nm (fun M9 => ?_)
    exact g_iret hR rfl dX5_mend_34
  · skip
    refine g_iload_n h 0 dX5_mend_13 rfl rfl ?_
    exact g_iret hR rfl dX5_mend_14
theorem n_X5_player_4 : ∀ w ∈ wsX40, w ∈ wsX5_player := by decide +kernel
theorem n_X5_player_5 : ∀ w ∈ wsX50, w ∈ wsX5_player := by decide +kernel
set_option maxHeartbeats 4000000 in
set_option maxRecDepth 100000 in
theorem c_X5_player (l : Launch) (ω : Wd)  (M : Mm) (a1 : Int32) (a2 : Int32) {r : Int32} {M' : Mm} (hm : m_X5_player a1 a2 M = some (r, M')) : MI l yX5_player wsX5_player ⟨2, 0, 0, 46⟩ ω LC [.ref (th ω 0 0), .int a1, .int a2] M r M' := by
  refine met_i (cc := cX5_player) (maxL := 3) (ty := .int) (by decide +kernel) rfl (Nat.le_of_ble_eq_true rfl) LC_nd ?_
  intro Γ h hR ht
  suffices K : Gq 0 Γ ω LC eI 0 [(0, .ref (th ω 0 0)), (1, .int a1), (2, .int a2)] [] M (m_X5_player a1 a2 M) from K (r, M') hm ht (c0 Γ)
  unfold m_X5_player
  refine g_iload_n h 1 dX5_player_0 rfl rfl ?_
  refine g_callP h (As := [.int a1]) (fun r t hG => c_X5_isPlayer l ω M00 a1 hG) 1 rfl gX5_player_X5_isPlayer rfl rfl rfl (by decide +kernel) (by decide) (st0 := _) rfl (Nat.le_of_ble_eq_true rfl) dX5_player_1 (fun r1 => ?_)
  refine g_if_ne h 9 dX5_player_4 (by decide) (fun hc2 => ?_) (fun hc2 => ?_)
  · skip
    refine g_iconst h (-1) dX5_player_7 (by decide) ?_
    exact g_iret hR rfl dX5_player_8
  · skip
    refine g_iload_n h 2 dX5_player_9 rfl rfl ?_
    refine g_if (fun hc3 => ?_) (fun hc3 => ?_)
    · refine g_tsIn h 0 (off := 42) 52 hc3 dX5_player_10 (by decide) (by decide) rfl (by decide) ?_
      refine g_aload_n h 0 dX5_player_52 rfl rfl ?_
      refine g_getR h (index := 10) (j := 0) iC_0_0 (C := RX5) (T := TX5) (N := 8) rfl n_X5_player_5 (by decide) rfl (by decide +kernel) dX5_player_53 ?_
      refine g_getR h (index := 62) (j := 0) (inS kS1 0 (by decide)) (C := RX4) (T := TX4) (N := 13) rfl n_X5_player_4 (by decide) rfl (by decide +kernel) dX5_player_56 ?_
      refine g_iload_n h 1 dX5_player_59 rfl rfl ?_
      refine g_iald h (v := M 1 1 a1.toNatClampNeg) rfl (inS kS1 1 (by decide)) dX5_player_60 ?_
      refine g_ni (fun v4 => ?_)
      exact g_iret hR rfl dX5_player_61
    refine g_if (fun hc5 => ?_) (fun hc5 => ?_)
    · refine g_tsIn h 1 (off := 52) 62 hc5 dX5_player_10 (by decide) (by decide) rfl (by decide) ?_
      refine g_aload_n h 0 dX5_player_62 rfl rfl ?_
      refine g_getR h (index := 10) (j := 0) iC_0_0 (C := RX5) (T := TX5) (N := 8) rfl n_X5_player_5 (by decide) rfl (by decide +kernel) dX5_player_63 ?_
      refine g_getR h (index := 188) (j := 1) (inS kS1 0 (by decide)) (C := RX4) (T := TX4) (N := 13) rfl n_X5_player_4 (by decide) rfl (by decide +kernel) dX5_player_66 ?_
      refine g_iload_n h 1 dX5_player_69 rfl rfl ?_
      refine g_iald h (v := M 1 2 a1.toNatClampNeg) rfl (inS kS1 2 (by decide)) dX5_player_70 ?_
      refine g_ni (fun v6 => ?_)
      exact g_iret hR rfl dX5_player_71
    refine g_if (fun hc7 => ?_) (fun hc7 => ?_)
    · refine g_tsIn h 2 (off := 62) 72 hc7 dX5_player_10 (by decide) (by decide) rfl (by decide) ?_
      refine g_aload_n h 0 dX5_player_72 rfl rfl ?_
      refine g_getR h (index := 10) (j := 0) iC_0_0 (C := RX5) (T := TX5) (N := 8) rfl n_X5_player_5 (by decide) rfl (by decide +kernel) dX5_player_73 ?_
      refine g_iconst h 0 dX5_player_76 (by decide) ?_
      refine g_iload_n h 1 dX5_player_77 rfl rfl ?_
      refine g_callI h (As := [.int 0, .int a1]) (fun t => uM M 1 t) (fun r t hG => MI_self (c_X4_conkersBeing l ω 1 kS1 M _ 0 a1 hG)) (inS kS1 0 (by decide)) (C := RX4) (T := TX4) (N := 13) rfl 2 rfl gX5_player_X4_conkersBeing rfl rfl rfl (by decide +kernel) (by decide) (st0 := _) rfl (Nat.le_of_ble_eq_true rfl) dX5_player_78 (fun r8 M9 => ?_)
      refine g_nm (fun M10 => ?_)
      exact g_iret hR rfl dX5_player_81
    refine g_if (fun hc11 => ?_) (fun hc11 => ?_)
    · refine g_tsIn h 3 (off := 72) 82 hc11 dX5_player_10 (by decide) (by decide) rfl (by decide) ?_
      refine g_aload_n h 0 dX5_player_82 rfl rfl ?_
      refine g_getR h (index := 10) (j := 0) iC_0_0 (C := RX5) (T := TX5) (N := 8) rfl n_X5_player_5 (by decide) rfl (by decide +kernel) dX5_player_83 ?_
      refine g_iconst h 1 dX5_player_86 (by decide) ?_
      refine g_iload_n h 1 dX5_player_87 rfl rfl ?_
      refine g_callI h (As := [.int 1, .int a1]) (fun t => uM M 1 t) (fun r t hG => MI_self (c_X4_conkersBeing l ω 1 kS1 M _ 1 a1 hG)) (inS kS1 0 (by decide)) (C := RX4) (T := TX4) (N := 13) rfl 2 rfl gX5_player_X4_conkersBeing rfl rfl rfl (by decide +kernel) (by decide) (st0 := _) rfl (Nat.le_of_ble_eq_true rfl) dX5_player_88 (fun r12 M13 => ?_)
      refine g_nm (fun M14 => ?_)
      exact g_iret hR rfl dX5_player_91
    refine g_if (fun hc15 => ?_) (fun hc15 => ?_)
    · refine g_tsIn h 4 (off := 82) 92 hc15 dX5_player_10 (by decide) (by decide) rfl (by decide) ?_
      refine g_aload_n h 0 dX5_player_92 rfl rfl ?_
      refine g_getR h (index := 10) (j := 0) iC_0_0 (C := RX5) (T := TX5) (N := 8) rfl n_X5_player_5 (by decide) rfl (by decide +kernel) dX5_player_93 ?_
      refine g_iconst h 2 dX5_player_96 (by decide) ?_
      refine g_iload_n h 1 dX5_player_97 rfl rfl ?_
      refine g_callI h (As := [.int 2, .int a1]) (fun t => uM M 1 t) (fun r t hG => MI_self (c_X4_conkersBeing l ω 1 kS1 M _ 2 a1 hG)) (inS kS1 0 (by decide)) (C := RX4) (T := TX4) (N := 13) rfl 2 rfl gX5_player_X4_conkersBeing rfl rfl rfl (by decide +kernel) (by decide) (st0 := _) rfl (Nat.le_of_ble_eq_true rfl) dX5_player_98 (fun r16 M17 => ?_)
      refine g_nm (fun M18 => ?_)
      exact g_iret hR rfl dX5_player_101
    refine g_if (fun hc19 => ?_) (fun hc19 => ?_)
    · refine g_tsIn h 5 (off := 92) 102 hc19 dX5_player_10 (by decide) (by decide) rfl (by decide) ?_
      refine g_aload_n h 0 dX5_player_102 rfl rfl ?_
      refine g_getR h (index := 10) (j := 0) iC_0_0 (C := RX5) (T := TX5) (N := 8) rfl n_X5_player_5 (by decide) rfl (by decide +kernel) dX5_player_103 ?_
      refine g_iload_n h 1 dX5_player_106 rfl rfl ?_
      refine g_callI h (As := [.int a1]) (fun t => uM M 1 t) (fun r t hG => MI_self (c_X4_victoriesOf l ω 1 kS1 M _ a1 hG)) (inS kS1 0 (by decide)) (C := RX4) (T := TX4) (N := 13) rfl 1 rfl gX5_player_X4_victoriesOf rfl rfl rfl (by decide +kernel) (by decide) (st0 := _) rfl (Nat.le_of_ble_eq_true rfl) dX5_player_107 (fun r20 M21 => ?_)
      refine g_nm (fun M22 => ?_)
      exact g_iret hR rfl dX5_player_110
    refine g_if (fun hc23 => ?_) (fun hc23 => ?_)
    · refine g_tsIn h 6 (off := 101) 111 hc23 dX5_player_10 (by decide) (by decide) rfl (by decide) ?_
      refine g_aload_n h 0 dX5_player_111 rfl rfl ?_
      refine g_getR h (index := 10) (j := 0) iC_0_0 (C := RX5) (T := TX5) (N := 8) rfl n_X5_player_5 (by decide) rfl (by decide +kernel) dX5_player_112 ?_
      refine g_iload_n h 1 dX5_player_115 rfl rfl ?_
      refine g_callI h (As := [.int a1]) (fun t => uM M 1 t) (fun r t hG => MI_self (c_X4_conkerToSend l ω 1 kS1 M _ a1 hG)) (inS kS1 0 (by decide)) (C := RX4) (T := TX4) (N := 13) rfl 1 rfl gX5_player_X4_conkerToSend rfl rfl rfl (by decide +kernel) (by decide) (st0 := _) rfl (Nat.le_of_ble_eq_true rfl) dX5_player_116 (fun r24 M25 => ?_)
      refine g_nm (fun M26 => ?_)
      exact g_iret hR rfl dX5_player_119
    refine g_tsOut h 120 (by
        have e0 : ¬ Int32.toInt a2 = 0 := lv_neT hc3 (by decide)
        have e1 : ¬ Int32.toInt a2 = 1 := lv_neT hc5 (by decide)
        have e2 : ¬ Int32.toInt a2 = 2 := lv_neT hc7 (by decide)
        have e3 : ¬ Int32.toInt a2 = 3 := lv_neT hc11 (by decide)
        have e4 : ¬ Int32.toInt a2 = 4 := lv_neT hc15 (by decide)
        have e5 : ¬ Int32.toInt a2 = 5 := lv_neT hc19 (by decide)
        have e6 : ¬ Int32.toInt a2 = 6 := lv_neT hc23 (by decide)
        omega) dX5_player_10 (by decide) ?_
    refine g_bipush h (-2) dX5_player_120 (by decide) ?_
    exact g_iret hR rfl dX5_player_122
