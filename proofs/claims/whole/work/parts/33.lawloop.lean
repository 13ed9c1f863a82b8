/-! SHARE's case, and the law's loop -/
section LOOP
variable {Γ : Lx} {n : Nat} {xs : Nat → Int32} {pc : Nat} {lv lv' : List (Nat × Value)} {st : List Value} {M M' : Mm} {TM TM' : Tm}
theorem L_sub (ks : List Nat) (hl : lv_pick lv ks = lv') (kk : WL Γ pc lv' st M TM) : WL Γ pc lv st M TM := by
  obtain ⟨p, e, s, m, below, meth, c, b, ω, ad, Q, l⟩ := Γ
  exact fun ls H locs hh hP hP' hS => kk ls H locs (lv_sub hh ks hl) hP hP' hS
theorem L_f2d (h : LOk Γ n xs) {x : UInt32} (hdg : decode cL_law pc = .ok (.f2d, 1)) (hne : vf_n64 (FP.f2d x)) (kk : WL Γ (pc + 1) lv (.double (FP.f2d x) :: st) M TM) : WL Γ pc lv (.float x :: st) M TM := by
  obtain ⟨p, e, s, m, below, meth, c, b, ω, ad, Q, l⟩ := Γ
  obtain ⟨hx, hb, _⟩ := h
  exact fun ls H locs hh hP hP' hS => lv_f2d hx hb hdg hne (kk ls H locs hh hP hP' hS)
theorem L_dstore (h : LOk Γ n xs) {i : Nat} {x : UInt64} (hdg : decode cL_law pc = .ok (.dstore i, 2)) (hn : i + 1 < 8) (hl : (i, Value.double x) :: lv.filter (fun q => !(q.1 == i) && (!(q.1 == i + 1) && !(q.1 + 1 == i && q.2.category == 2))) = lv') (kk : WL Γ (pc + 2) lv' st M TM) : WL Γ pc lv (.double x :: st) M TM := by
  obtain ⟨p, e, s, m, below, meth, c, b, ω, ad, Q, l⟩ := Γ
  obtain ⟨hx, hb, _⟩ := h
  exact fun ls H locs hh hP hP' hS => lv_dstore hx hb hdg hh hn hl (fun ls' hh' => kk ls' H locs hh' hP hP' hS)
theorem L_dload (h : LOk Γ n xs) {i : Nat} {x : UInt64} (j : Nat) (hdg : decode cL_law pc = .ok (.dload i, 2)) (hj : lv[j]? = some (i, .double x)) (kk : WL Γ (pc + 2) lv (.double x :: st) M TM) : WL Γ pc lv st M TM := by
  obtain ⟨p, e, s, m, below, meth, c, b, ω, ad, Q, l⟩ := Γ
  obtain ⟨hx, hb, _⟩ := h
  exact fun ls H locs hh hP hP' hS => lv_dload hx hb hdg (lv_at hh j hj) (kk ls H locs hh hP hP' hS)
theorem L_dcmp (h : LOk Γ n xs) {x y : UInt64} {op : CmpOp} (hdg : decode cL_law pc = .ok (.dcmp op, 1)) (kk : WL Γ (pc + 1) lv (.int (Op.cmpValue (FP.dcmp x y) op) :: st) M TM) : WL Γ pc lv (.double y :: .double x :: st) M TM := by
  obtain ⟨p, e, s, m, below, meth, c, b, ω, ad, Q, l⟩ := Γ
  obtain ⟨hx, hb, _⟩ := h
  exact fun ls H locs hh hP hP' hS => lv_dcmp hx hb hdg (kk ls H locs hh hP hP' hS)
theorem L_ifeq (h : LOk Γ n xs) {x : Int32} (h0 : x = 0) {off : Int} (tgt : Nat) (hdg : decode cL_law pc = .ok (.ifCond .eq off, 3)) (ht : (pc : Int) + off = (tgt : Int)) (kk : WL Γ tgt lv st M TM) : WL Γ pc lv (.int x :: st) M TM := by
  obtain ⟨p, e, s, m, below, meth, c, b, ω, ad, Q, l⟩ := Γ
  obtain ⟨hx, hb, _⟩ := h
  exact fun ls H locs hh hP hP' hS => lv_if_eq hx hb hdg ht (fun _ => kk ls H locs hh hP hP' hS) (fun hne => absurd h0 hne)
set_option maxHeartbeats 4000000 in
/-- a call of the class -/
theorem L_callCF (h : LOk Γ n xs) {index maxL : Nat} {y : MethodName} {ws2 ws2' : List Cond} {rm2 : Room} {bytes : ByteArray} {As : List Value} {r : Int32} (hM : MF Γ.2.2.2.2.2.2.2.2.2.2.2 y ws2 rm2 Γ.2.2.2.2.2.2.2.2.1 LC (.ref (th Γ.2.2.2.2.2.2.2.2.1 0 0) :: As) M r M') (k : Nat) (hn : As.length = k) (hT : GoodIn wsL_law (wsV RL index RX5 y ws2)) (hw : ws2 = Cond.code y bytes maxL (some .float) :: ws2') (hrc : rm2.cells = 0) (hrs : rm2.slots = 0)
    (hd : y.cls = RX5 ∧ y.cls ≠ "java/lang/invoke/MethodHandle" ∧ y.cls ≠ "java/lang/invoke/VarHandle" ∧ (parseMethodDescriptor y.desc).map (fun d => d.parameters.length) = some k) (hRm : rm2.frames + 1 ≤ 8 ∧ 8 + (maxL + 11) + rm2.locals ≤ 292) {st0 : List Value} (hst : st0 = As.reverse ++ .ref (th Γ.2.2.2.2.2.2.2.2.1 0 0) :: st) (hsum : (st.map fun v => v.category).sum ≤ 8) (hdg : decode cL_law pc = .ok (.invokevirtual index, 3))
    (kk : WL Γ (pc + 3) lv (.float r.toUInt32 :: st) M' TM) : WL Γ pc lv st0 M TM := by
  obtain ⟨p, e, s, m, below, meth, c, b, ω, ad, Q, l⟩ := Γ
  obtain ⟨hx, hb, hml, hown, hts, hX, hbl, hK, hD, hD', hne, hZ⟩ := h
  intro ls H locs hh hP hP' hS
  obtain ⟨p0, hp0, hp⟩ := wW_get (ω := ω) (M := M) iC_0_0
  refine va_callf (va_runV (As := As) (rest := st) ⟨hx, hb, hml, hown, hts⟩ (hM H.size) (cwV k hts hT hw hrc hrs hd hRm) ⟨PreW_blind, va_recv hK hP rfl hp, fun U hU hW => ⟨rfl, by rw [hU], by rw [hU]; exact hP, va_K.moved hW.alike hK, hD.1, va_Nw.warmM hW hZ⟩⟩ rfl hn hh.1 hst (lv_room hsum) hdg ⟨by decide, by decide⟩) hS (fun q _ h => aW_S hD.2 (fun _ h => h) hS q h) (aW_S hD.2 (fun _ h => h) hS) (fun r9 u t H1 locs1 ht1 hvm hw hB hz1 hk1 hS1 => ?_)
  subst hw
  rw [ht1] at hB
  refine kk ls H1 locs1 hh hB (hP'.kept (fun k x hx => ?_)) hS1
  have hlt := (hP' k x hx).lt
  refine hk1 x.1 hlt (fun hq => ?_)
  obtain ⟨q', hq', e1⟩ := wW_mem hx
  rcases hq with ⟨q, hq, e2⟩ | hq
  · exact hne q hq q' hq' (e2.symm.trans e1)
  · omega
set_option maxHeartbeats 4000000 in
/-- a call of the reference -/
theorem L_callMF (h : LOk Γ n xs) {index maxL : Nat} {y : MethodName} {ws2 ws2' : List Cond} {rm2 : Room} {bytes : ByteArray} {As : List Value} {r : Int32} (hM : MF Γ.2.2.2.2.2.2.2.2.2.2.2 y ws2 rm2 (wO Γ.2.2.2.2.2.2.2.2.1 Γ.2.2.2.2.2.2.2.2.2.1) LM (.ref (th (wO Γ.2.2.2.2.2.2.2.2.1 Γ.2.2.2.2.2.2.2.2.2.1) 0 0) :: As) (uM M00 0 TM) r (uM M00 0 TM')) (k : Nat) (hn : As.length = k) (hT : GoodIn wsL_law (wsV RL index RX6 y ws2)) (hw : ws2 = Cond.code y bytes maxL (some .float) :: ws2') (hrc : rm2.cells = 0) (hrs : rm2.slots = 0)
    (hd : y.cls = RX6 ∧ y.cls ≠ "java/lang/invoke/MethodHandle" ∧ y.cls ≠ "java/lang/invoke/VarHandle" ∧ (parseMethodDescriptor y.desc).map (fun d => d.parameters.length) = some k) (hRm : rm2.frames + 1 ≤ 8 ∧ 8 + (maxL + 11) + rm2.locals ≤ 292) {st0 : List Value} (hst : st0 = As.reverse ++ .ref (th (wO Γ.2.2.2.2.2.2.2.2.1 Γ.2.2.2.2.2.2.2.2.2.1) 0 0) :: st) (hsum : (st.map fun v => v.category).sum ≤ 8) (hdg : decode cL_law pc = .ok (.invokevirtual index, 3))
    (kk : WL Γ (pc + 3) lv (.float r.toUInt32 :: st) M TM') : WL Γ pc lv st0 M TM := by
  obtain ⟨p, e, s, m, below, meth, c, b, ω, ad, Q, l⟩ := Γ
  obtain ⟨hx, hb, hml, hown, hts, hX, hbl, hK, hD, hD', hne, hZ⟩ := h
  intro ls H locs hh hP hP' hS
  obtain ⟨p0, hp0, hp⟩ := wW_get (ω := wO ω ad) (M := uM M00 0 TM) iM_0_0
  refine va_callf (va_runV (As := As) (rest := st) ⟨hx, hb, hml, hown, hts⟩ (hM H.size) (cwV k hts hT hw hrc hrs hd hRm) ⟨PreW_blind, va_recv hK hP' rfl hp, fun U hU hW => ⟨rfl, by rw [hU], by rw [hU]; exact hP', va_K.moved hW.alike hK, hD'.1, va_Nw.warmM hW hZ⟩⟩ rfl hn hh.1 hst (lv_room hsum) hdg ⟨by decide, by decide⟩) hS (fun q _ h => aW_S hD'.2 (fun _ h => h) hS q h) (aW_S hD'.2 (fun _ h => h) hS) (fun r9 u t H1 locs1 ht1 hvm hw hB hz1 hk1 hS1 => ?_)
  subst hw
  rw [ht1] at hB
  refine kk ls H1 locs1 hh (hP.kept (fun k x hx => ?_)) hB hS1
  have hlt := (hP k x hx).lt
  refine hk1 x.1 hlt (fun hq => ?_)
  obtain ⟨q', hq', e1⟩ := wW_mem hx
  rcases hq with ⟨q, hq, e2⟩ | hq
  · exact hne q' hq' q hq (e1.symm.trans e2)
  · omega
theorem k_share {i : Nat} (hO : LOk Γ n xs) (hn : n ≤ 2048) (hi : i + 4 ≤ n) (hr : Rel M TM) (kk : ∀ M' TM', Rel M' TM' → WL Γ 843 (lvL Γ i) [] M' TM') : WL Γ 790 (lvL Γ i) [] M TM := by
  obtain ⟨r, M', TM', e1, e2, hr', hs⟩ := op_share (xs (i + 1)) M TM hr
  refine L_aload_n hO 2 dL_law_790 rfl rfl ?_
  refine L_aload_n hO 3 dL_law_791 rfl rfl ?_
  refine L_iload_n hO 0 dL_law_792 rfl rfl ?_
  refine L_iconst hO 1 dL_law_793 (by decide) ?_
  refine L_iadd hO dL_law_794 ?_
  refine L_sld hO rfl (j := i + 1) (nI_p1 i) (by omega) hn dL_law_795 ?_
  refine L_callCF hO (As := [.int (xs (i + 1))]) (c_X5_share (gq Γ) (gw Γ) M _ e1) 1 rfl gL_law_X5_share rfl rfl rfl (by decide +kernel) ⟨by decide, by decide⟩ rfl (Nat.le_of_ble_eq_true rfl) dL_law_796 ?_
  refine L_f2d hO dL_law_799 hs.1 ?_
  refine L_dstore hO dL_law_800 (by decide) rfl ?_
  refine L_aload_n hO 2 dL_law_802 rfl rfl ?_
  refine L_aload_n hO 4 dL_law_803 rfl rfl ?_
  refine L_iload_n hO 1 dL_law_804 rfl rfl ?_
  refine L_iconst hO 1 dL_law_805 (by decide) ?_
  refine L_iadd hO dL_law_806 ?_
  refine L_sld hO rfl (j := i + 1) (nI_p1 i) (by omega) hn dL_law_807 ?_
  refine L_callMF hO (As := [.int (xs (i + 1))]) (c_X6_share (gq Γ) (gO Γ) M00 TM _ e2) 1 rfl gL_law_X6_share rfl rfl rfl (by decide +kernel) ⟨by decide, by decide⟩ rfl (Nat.le_of_ble_eq_true rfl) dL_law_808 ?_
  refine L_f2d hO dL_law_811 hs.1 ?_
  refine L_dstore hO dL_law_812 (by decide) rfl ?_
  refine L_dload hO 1 dL_law_814 rfl ?_
  refine L_dload hO 0 dL_law_816 rfl ?_
  refine L_dcmp hO dL_law_818 ?_
  refine L_ifeq hO hs.2 840 dL_law_819 rfl ?_
  refine L_goto hO 843 dL_law_840 rfl ?_
  refine L_sub [2, 3, 4, 5] (lv' := lvL Γ i) rfl ?_
  exact kk M' TM' hr'
set_option maxHeartbeats 4000000 in
theorem law_case {i : Nat} (hO : LOk Γ n xs) (hn : n ≤ 2048) (hi : i + 4 ≤ n) (hr : Rel M TM) (kk : ∀ M' TM', Rel M' TM' → WL Γ 843 (lvL Γ i) [] M' TM') : WL Γ 26 (lvL Γ i) [] M TM := by
  refine L_aload_n hO 3 dL_law_26 rfl rfl ?_
  refine L_iload_n hO 0 dL_law_27 rfl rfl ?_
  refine L_sld hO rfl (j := i) rfl (by omega) hn dL_law_28 ?_
  refine L_bipush hO 31 dL_law_29 (by decide) ?_
  refine L_iand hO dL_law_31 ?_
  obtain ⟨j, hj, e⟩ := pk_andE (xs i) (m := 31) 5 (by decide)
  by_cases h25 : 25 ≤ j
  · refine L_tsOut hO 843 (Or.inr ?_) dL_law_32 rfl (kk M TM hr)
    rw [e, nI_toI (by omega)]
    omega
  have hc : j = 0 ∨ j = 1 ∨ j = 2 ∨ j = 3 ∨ j = 4 ∨ j = 5 ∨ j = 6 ∨ j = 7 ∨ j = 8 ∨ j = 9 ∨ j = 10 ∨ j = 11 ∨ j = 12 ∨ j = 13 ∨ j = 14 ∨ j = 15 ∨ j = 16 ∨ j = 17 ∨ j = 18 ∨ j = 19 ∨ j = 20 ∨ j = 21 ∨ j = 22 ∨ j = 23 ∨ j = 24 := by omega
  rcases hc with rfl | rfl | rfl | rfl | rfl | rfl | rfl | rfl | rfl | rfl | rfl | rfl | rfl | rfl | rfl | rfl | rfl | rfl | rfl | rfl | rfl | rfl | rfl | rfl | rfl
  · exact L_tsIn hO (nI 0) 148 e dL_law_32 (by decide) (by decide) rfl rfl (k_thread hO hn hi hr kk)
  · exact L_tsIn hO (nI 1) 181 e dL_law_32 (by decide) (by decide) rfl rfl (k_give hO hn hi hr kk)
  · exact L_tsIn hO (nI 2) 214 e dL_law_32 (by decide) (by decide) rfl rfl (k_strike hO hn hi hr kk)
  · exact L_tsIn hO (nI 3) 257 e dL_law_32 (by decide) (by decide) rfl rfl (k_mend hO hn hi hr kk)
  · exact L_tsIn hO (nI 4) 280 e dL_law_32 (by decide) (by decide) rfl rfl (k_stamp hO hn hi hr kk)
  · exact L_tsIn hO (nI 5) 303 e dL_law_32 (by decide) (by decide) rfl rfl (k_boast hO hn hi hr kk)
  · exact L_tsIn hO (nI 6) 336 e dL_law_32 (by decide) (by decide) rfl rfl (k_doubt hO hn hi hr kk)
  · exact L_tsIn hO (nI 7) 369 e dL_law_32 (by decide) (by decide) rfl rfl (k_bout hO hn hi hr kk)
  · exact L_tsIn hO (nI 8) 412 e dL_law_32 (by decide) (by decide) rfl rfl (k_round hO hn hi hr kk)
  · exact L_tsIn hO (nI 9) 435 e dL_law_32 (by decide) (by decide) rfl rfl (k_append hO hn hi hr kk)
  · exact L_tsIn hO (nI 10) 458 e dL_law_32 (by decide) (by decide) rfl rfl (k_clearText hO hn hi hr kk)
  · exact L_tsIn hO (nI 11) 471 e dL_law_32 (by decide) (by decide) rfl rfl (k_fault hO hn hi hr kk)
  · exact L_tsIn hO (nI 12) 484 e dL_law_32 (by decide) (by decide) rfl rfl (k_run hO hn hi hr kk)
  · exact L_tsIn hO (nI 13) 497 e dL_law_32 (by decide) (by decide) rfl rfl (k_undo hO hn hi hr kk)
  · exact L_tsIn hO (nI 14) 510 e dL_law_32 (by decide) (by decide) rfl rfl (k_save hO hn hi hr kk)
  · exact L_tsIn hO (nI 15) 523 e dL_law_32 (by decide) (by decide) rfl rfl (k_restore hO hn hi hr kk)
  · exact L_tsIn hO (nI 16) 536 e dL_law_32 (by decide) (by decide) rfl rfl (k_conker hO hn hi hr kk)
  · exact L_tsIn hO (nI 17) 569 e dL_law_32 (by decide) (by decide) rfl rfl (k_player hO hn hi hr kk)
  · exact L_tsIn hO (nI 18) 602 e dL_law_32 (by decide) (by decide) rfl rfl (k_ranked hO hn hi hr kk)
  · exact L_tsIn hO (nI 19) 625 e dL_law_32 (by decide) (by decide) rfl rfl (k_line hO hn hi hr kk)
  · exact L_tsIn hO (nI 20) 648 e dL_law_32 (by decide) (by decide) rfl rfl (k_count hO hn hi hr kk)
  · exact L_tsIn hO (nI 21) 671 e dL_law_32 (by decide) (by decide) rfl rfl (k_ifStruck hO hn hi hr kk)
  · exact L_tsIn hO (nI 22) 714 e dL_law_32 (by decide) (by decide) rfl rfl (k_leastSwing hO hn hi hr kk)
  · exact L_tsIn hO (nI 23) 747 e dL_law_32 (by decide) (by decide) rfl rfl (k_winner hO hn hi hr kk)
  · exact L_tsIn hO (nI 24) 790 e dL_law_32 (by decide) (by decide) rfl rfl (k_share hO hn hi hr kk)
theorem law_loop (hO : LOk Γ n xs) (hn : n ≤ 2048) (hE : ∀ i M TM, WL Γ 849 (lvL Γ i) [] M TM) : ∀ (k i : Nat) (M : Mm) (TM : Tm), i ≤ n + 4 → n + 4 - i < k → Rel M TM → WL Γ 18 (lvL Γ i) [] M TM := by
  intro k
  induction k with
  | zero => intro i M TM _ h; omega
  | succ k ih =>
    intro i M TM hi hk hr
    refine L_iload_n hO 0 dL_law_18 rfl rfl ?_
    refine L_aload_n hO 3 dL_law_19 rfl rfl ?_
    refine L_slen hO rfl dL_law_20 ?_
    refine L_iconst hO 4 dL_law_21 (by decide) ?_
    refine L_isub hO dL_law_22 ?_
    have et : (Int32.ofNat n - 4).toInt = (n : Int) - 4 := pk_sub_toInt (a := n) (b := 4) (by omega) (by decide)
    refine L_icmp_gt hO 849 dL_law_23 rfl (fun _ => hE i M TM) (fun hle => ?_)
    have h4 : i + 4 ≤ n := by
      have h5 := i_le_nlt.mpr hle
      have h6 := Int32.le_iff_toInt_le.mp h5
      rw [et, nI_toI (by omega)] at h6
      omega
    refine law_case hO hn h4 hr (fun M' TM' hr' => ?_)
    refine L_iinc hO dL_law_843 (k := 0) rfl (nI_p4 i) (by decide) rfl ?_
    refine L_goto hO 18 dL_law_846 rfl ?_
    exact ih (i + 4) M' TM' (by omega) (by omega) hr'
end LOOP
