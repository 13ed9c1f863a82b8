/-! AN ORDER: both read it alike -/
section ORDER
variable {S TM S' TM' : Tm} {L i k : Nat} {χ : Nat → Nat}
def SF (S S' : Tm) : Prop := S' 0 1 = S 0 1 ∧ ∀ j, S' 1 j = S 1 j
def TF (TM TM' : Tm) : Prop := (∀ q, q ≠ 0 → TM' q = TM q) ∧ ∀ j, j < 8 → TM' 0 j = TM 0 j
theorem sf_rf (S : Tm) : SF S S := ⟨rfl, fun _ => rfl⟩
theorem tf_rf (S : Tm) : TF S S := ⟨fun _ _ => rfl, fun _ _ => rfl⟩
theorem sf_w (h : SF S S') {j : Nat} (hj : j ≠ 1) (v : Int32) : SF S (wT S' 0 j v) := ⟨by rw [wT_sn _ _ _ (fun e => hj e.symm)]; exact h.1, fun q => by rw [wT_n _ _ _ _ (by decide)]; exact h.2 q⟩
theorem tf_w (h : TF TM TM') {j : Nat} (hj : 8 ≤ j) (v : Int32) : TF TM (wT TM' 0 j v) := ⟨fun q hq => by rw [wT_ne _ _ _ hq]; exact h.1 q hq, fun q hq => by rw [wT_sn _ _ _ (by omega)]; exact h.2 q hq⟩
theorem sf_tr {S'' : Tm} (h : SF S S') (h' : SF S' S'') : SF S S'' := ⟨h'.1.trans h.1, fun j => (h'.2 j).trans (h.2 j)⟩
theorem tf_tr {TM'' : Tm} (h : TF TM TM') (h' : TF TM' TM'') : TF TM TM'' := ⟨fun q hq => (h'.1 q hq).trans (h.1 q hq), fun j hj => (h'.2 j hj).trans (h.2 j hj)⟩
theorem tx_f (h : TX S TM L χ) (h1 : SF S S') (h2 : TF TM TM') : TX S' TM' L χ := by
  obtain ⟨a1, a2, a3, a4, a5⟩ := h
  exact ⟨a1, h1.1.trans a2, (h2.2 4 (by decide)).trans a3, fun j hj => by rw [h1.2, h2.1 2 (by decide)]; exact a4 j hj, a5⟩
/-- what both know of an order -/
def OA (S TM : Tm) : Prop := S 0 3 = TM 0 9 ∧ (S 0 3 = 116 ∨ S 0 3 = 115 ∨ S 0 3 = 120) ∧ S 0 4 = TM 0 10 ∧ (S 0 3 = 120 → S 0 5 = TM 0 11 ∧ S 0 6 = TM 0 12)
def RD (L i : Nat) (S TM : Tm) (C R : Option (Int32 × Tm)) : Prop := ∃ (b : Bool) (i' : Nat) (S' TM' : Tm), C = some (bI b, S') ∧ R = some (bI b, TM') ∧ i ≤ i' ∧ i' ≤ L ∧ S' 0 2 = nI i' ∧ TM' 0 8 = nI i' ∧ SF S S' ∧ TF TM TM' ∧ (b = true → OA S' TM' ∧ i < i')
theorem rd_mono {C R : Option (Int32 × Tm)} (h1 : SF S S') (h2 : TF TM TM') (hi : i ≤ k) (h : RD L k S' TM' C R) : RD L i S TM C R := by
  obtain ⟨b, i', X, Y, e1, e2, e3, e4, e5, e6, e7, e8, e9⟩ := h
  exact ⟨b, i', X, Y, e1, e2, by omega, e4, e5, e6, sf_tr h1 e7, tf_tr h2 e8, fun hb => ⟨(e9 hb).1, by have := (e9 hb).2; omega⟩⟩
theorem s_142 (hj : TM 0 8 = nI k) : m_X6_readsOrder_142 TM = some (0, wT TM 0 12 (-5)) := by
  unfold m_X6_readsOrder_142 m_X6_readsOrder_144
  simp only [nm_u]
  have e2 : nI k + 0 = nI k := Int32.add_zero _
  rw [wT_ss, if_pos rfl, wT_sn _ _ _ (by decide), hj]
  unfold m_X6_readsOrder_166
  rw [s_flag, bnd_s, if_pos rfl, nm_u, nm_u, e2, wT_id (by rw [wT_sn _ _ _ (by decide)]; exact hj), wT_ss, if_pos rfl]
theorem rd_142 {C : Option (Int32 × Tm)} (hj : TM 0 8 = nI k) (hk : k ≤ L) (hi : S' 0 2 = nI k) (hS : SF S S') (hC : C = some (0, S')) : RD L k S TM C (m_X6_readsOrder_142 TM) := by
  refine ⟨false, k, S', wT TM 0 12 (-5), hC, s_142 hj, Nat.le_refl _, hk, hi, ?_, hS, tf_w (tf_rf _) (by decide) _, fun e => by cases e⟩
  rw [wT_sn _ _ _ (by decide)]
  exact hj
theorem t_A (h : TX S TM L χ) (hi : S 0 2 = nI k) (hj : TM 0 8 = nI k) (hk : k ≤ L) (f3 : S 0 3 = 120) (g9 : TM 0 9 = 120) (f4 : S 0 4 = TM 0 10) (f5 : S 0 5 = TM 0 11) : RD L k S TM
    (bnd (m_X3_digit S) fun r26 T27 =>
              nm (wT T27 0 6 r26) fun T28 =>
              nm (T28 0 6) fun v29 =>
              if 1 ≤ v29 then
                nm (T28 0 2) fun v31 =>
                nm (wT T28 0 2 (v31 + 1)) fun T32 =>
                some (1, T32)
              else
                some (0, T28))
    (bnd (m_X6_isHere 49 57 TM) fun r7 T8 =>
      if r7 = 0 then
        m_X6_readsOrder_142 T8
      else
        nm (T8 0 8) fun v10 =>
        gd (ib v10 60) <| nm (T8 2 v10.toNatClampNeg) fun v11 =>
        m_X6_readsOrder_144 (v11 - 48) T8) := by
  have h60 := h.1
  have hc := tx_le h k
  have e49 : (49 : Int32) = nI 49 := rfl
  have e57 : (57 : Int32) = nI 57 := rfl
  have sh := s_isHere h hj hk (a := 49) (b := 57) (by decide) (by decide) (by decide)
  rw [← e49, ← e57] at sh
  rw [s_digit h hi hk, bnd_s, sh, bnd_s]
  simp only [nm_u]
  rw [wT_ss]
  by_cases hd : 49 ≤ χ k ∧ χ k ≤ 57
  · have hlt := tx_lt h (k := k) (by omega)
    have hd1 : dgB (χ k) = true := by unfold dgB; simp; omega
    have e : (decide (49 ≤ χ k) && decide (χ k ≤ 57)) = true := by simp [hd.1, hd.2]
    have c1 : (1 : Int32) ≤ nI (χ k - 48) := nI_le (a := 1) (by omega) (by omega)
    have hx := h.2.2.2.1 k hlt
    have e1 : nI (χ k) - 48 = nI (χ k - 48) := pk_sub (b := 48) (by omega)
    have d1 : ¬ (1 : Int32) = 0 := by decide
    rw [e, bf_t, dV_t hd1, if_pos c1, hj, ib_nI (by omega) (by decide), gd_t, cl_nI (by omega), hx.2.2.2, e1]
    unfold m_X6_readsOrder_144
    simp only [nm_u]
    rw [wT_ss, if_neg (nI_nem5 (by omega))]
    unfold m_X6_readsOrder_166
    rw [s_flag, bnd_s, if_neg d1]
    simp only [nm_u]
    simp (disch := omega) only [wT_sn, wT_ss]
    rw [if_neg (nI_nem5 (by omega)), hi, hj, nI_p1]
    refine ⟨true, k + 1, _, _, rfl, rfl, by omega, by omega, wT_ss _ _ _ _, wT_ss _ _ _ _, sf_w (sf_w (sf_rf _) (by decide) _) (by decide) _, tf_w (tf_w (tf_rf _) (by decide) _) (by decide) _, fun _ => ⟨⟨?_, ?_, ?_, fun _ => ⟨?_, ?_⟩⟩, by omega⟩⟩
    · simp (disch := omega) only [wT_sn]
      rw [f3, g9]
    · simp (disch := omega) only [wT_sn]
      exact Or.inr (Or.inr f3)
    · simp (disch := omega) only [wT_sn]
      exact f4
    · simp (disch := omega) only [wT_sn]
      exact f5
    · simp (disch := omega) only [wT_sn, wT_ss]
  · have e : (decide (49 ≤ χ k) && decide (χ k ≤ 57)) = false := by
      by_cases h1 : 49 ≤ χ k
      · have h2 : ¬ χ k ≤ 57 := fun h2 => hd ⟨h1, h2⟩
        simp [h2]
      · simp [h1]
    have c1 : ¬ (1 : Int32) ≤ dV (χ k) := by
      cases hd1 : dgB (χ k) with
      | true =>
        have h3 := dgB_t hd1
        have h4 : χ k = 48 := by omega
        rw [dV_t hd1, h4]
        decide
      | false => rw [dV_f hd1]; decide
    rw [e, bf_f, if_neg c1]
    exact rd_142 hj hk (by rw [wT_sn _ _ _ (by decide)]; exact hi) (sf_w (sf_rf _) (by decide) _) rfl
theorem t_94f (hj : TM 0 8 = nI k) {C : Option (Int32 × Tm)} (hk : k ≤ L) (hi : S' 0 2 = nI k) (hS : SF S S') (hC : C = some (0, S')) : RD L k S TM C (m_X6_readsOrder_94 (-5) TM) := by
  unfold m_X6_readsOrder_94
  simp only [nm_u]
  rw [wT_ss, if_pos rfl]
  exact rd_mono (sf_rf _) (tf_w (tf_rf _) (j := 11) (by decide) _) (Nat.le_refl _) (rd_142 (by rw [wT_sn _ _ _ (by decide)]; exact hj) hk hi hS hC)
theorem t_B (h : TX S TM L χ) (hi : S 0 2 = nI k) (hj : TM 0 8 = nI k) (hk : k ≤ L) (f3 : S 0 3 = 120) (g9 : TM 0 9 = 120) (f4 : S 0 4 = TM 0 10) : RD L k S TM
    (bnd (m_X3_readConker S) fun r18 T19 =>
          nm (wT T19 0 5 r18) fun T20 =>
          nm (T20 0 5) fun v21 =>
          if v21 < 0 then
            some (0, T20)
          else
            bnd (m_X3_take 58 T20) fun r23 T24 =>
            if r23 = 0 then
              some (0, T24)
            else
              bnd (m_X3_digit T24) fun r26 T27 =>
              nm (wT T27 0 6 r26) fun T28 =>
              nm (T28 0 6) fun v29 =>
              if 1 ≤ v29 then
                nm (T28 0 2) fun v31 =>
                nm (wT T28 0 2 (v31 + 1)) fun T32 =>
                some (1, T32)
              else
                some (0, T28))
    (bnd (m_X6_number TM) fun r12 T13 =>
        m_X6_readsOrder_94 r12 T13) := by
  have h60 := h.1
  rw [s_readConker h hi hk, bnd_s, s_number h hj hk, bnd_s]
  simp only [nm_u]
  rw [wT_ss]
  rcases nV_or h k with ⟨e1, e2⟩ | ⟨v, hv, e1, e2⟩
  · have c : ((-5) : Int32) < 0 := by decide
    rw [e1, e2, if_pos c, wT_id hi, wT_id hj]
    exact t_94f hj hk (by rw [wT_sn _ _ _ (by decide)]; exact hi) (sf_w (sf_rf _) (by decide) _) rfl
  · obtain ⟨p1, p2⟩ := nP_le h hk
    rw [e1, if_neg (nn0 (by omega))]
    unfold m_X6_readsOrder_94
    simp only [nm_u]
    rw [wT_ss, if_neg (nI_nem5 (by omega))]
    have hx : TX (wT (wT S 0 2 (nI (nP χ k))) 0 5 (nI v)) (wT (wT TM 0 8 (nI (nP χ k))) 0 11 (nI v)) L χ := tx_S (tx_S (tx_T (tx_T h (by decide) _) (by decide) _) (by decide) _) (by decide) _
    have i2 : (wT (wT S 0 2 (nI (nP χ k))) 0 5 (nI v)) 0 2 = nI (nP χ k) := by rw [wT_sn _ _ _ (by decide), wT_ss]
    have j2 : (wT (wT TM 0 8 (nI (nP χ k))) 0 11 (nI v)) 0 8 = nI (nP χ k) := by rw [wT_sn _ _ _ (by decide), wT_ss]
    have sS : SF S (wT (wT S 0 2 (nI (nP χ k))) 0 5 (nI v)) := sf_w (sf_w (sf_rf _) (by decide) _) (by decide) _
    have sT : TF TM (wT (wT TM 0 8 (nI (nP χ k))) 0 11 (nI v)) := tf_w (tf_w (tf_rf _) (by decide) _) (by decide) _
    have e58 : (58 : Int32) = nI 58 := rfl
    have q1 := s_takeC hx i2 p1 (c := 58) (by decide)
    have q2 := s_takes hx j2 p1 (c := 58) (by decide) (by decide)
    rw [← e58] at q1 q2
    rw [q1, bnd_s, q2, bnd_s]
    by_cases hc : χ (nP χ k) = 58
    · have hl2 := tx_lt h (k := nP χ k) (by omega)
      rw [decide_eq_true hc, bf_t, bf_t, if_pos hc]
      refine rd_mono (sf_w sS (by decide) _) (tf_w sT (by decide) _) (k := nP χ k + 1) (by omega) (t_A (tx_S (tx_T hx (by decide) _) (by decide) _) (wT_ss _ _ _ _) (wT_ss _ _ _ _) (by omega) ?_ ?_ ?_ ?_)
      · simp (disch := omega) only [wT_sn]; exact f3
      · simp (disch := omega) only [wT_sn]; exact g9
      · simp (disch := omega) only [wT_sn]; exact f4
      · simp (disch := omega) only [wT_sn, wT_ss]
    · rw [decide_eq_false hc, bf_f, bf_f, if_neg hc, wT_id i2, wT_id j2]
      exact rd_mono sS sT p2 (rd_142 j2 p1 i2 (sf_rf _) rfl)
theorem t_K (h : TX S TM L χ) (hi : S 0 2 = nI k) (hj : TM 0 8 = nI (k + 1)) (hk : k + 1 ≤ L) {c : Nat} (hc : c = 116 ∨ c = 115) (f3 : S 0 3 = nI c) : RD L k S TM (m_X3_readOrder_26 S) (m_X6_readsOrder_31 (nI c) TM) := by
  have h60 := h.1
  unfold m_X3_readOrder_26 m_X6_readsOrder_31
  simp only [nm_u]
  rw [hi, nI_p1, s_readConker (tx_S h (by decide) _) (wT_ss _ _ _ _) hk, bnd_s, s_number (tx_T h (by decide) _) (by rw [wT_sn _ _ _ (by decide)]; exact hj) hk, bnd_s, wT_ss, wT_wT]
  have n120 : ¬ nI c = 120 := fun e => by
    have := nI_inj (b := 120) (by omega) (by decide) e
    omega
  have e9 : ∀ v w : Int32, (wT (wT (wT TM 0 9 (nI c)) 0 8 v) 0 10 w) 0 9 = nI c := fun v w => by
    rw [wT_sn _ _ _ (by decide), wT_sn _ _ _ (by decide), wT_ss]
  rw [e9, if_neg n120]
  unfold m_X6_readsOrder_60
  simp only [nm_u]
  rw [wT_ss]
  obtain ⟨p1, p2⟩ := nP_le h hk
  have sS : ∀ v, SF S (wT (wT S 0 2 (nI (nP χ (k + 1)))) 0 4 v) := fun v => sf_w (sf_w (sf_rf _) (by decide) _) (by decide) _
  have sT : ∀ v, TF TM (wT (wT (wT TM 0 9 (nI c)) 0 8 (nI (nP χ (k + 1)))) 0 10 v) := fun v => tf_w (tf_w (tf_w (tf_rf _) (by decide) _) (by decide) _) (by decide) _
  have i2 : ∀ v, (wT (wT S 0 2 (nI (nP χ (k + 1)))) 0 4 v) 0 2 = nI (nP χ (k + 1)) := fun v => by rw [wT_sn _ _ _ (by decide), wT_ss]
  have j2 : ∀ v, (wT (wT (wT TM 0 9 (nI c)) 0 8 (nI (nP χ (k + 1)))) 0 10 v) 0 8 = nI (nP χ (k + 1)) := fun v => by rw [wT_sn _ _ _ (by decide), wT_ss]
  rcases nV_or h (k + 1) with ⟨e1, e2⟩ | ⟨v, hv, e1, e2⟩
  · have c0 : ((-5) : Int32) < 0 := by decide
    rw [e1, if_pos c0, if_pos rfl]
    exact ⟨false, _, _, _, rfl, rfl, by omega, p1, i2 _, j2 _, sS _, sT _, fun e => by cases e⟩
  · rw [e1, if_neg (nn0 (by omega)), if_neg (nI_nem5 (by omega))]
    refine ⟨true, _, _, _, rfl, rfl, by omega, p1, i2 _, j2 _, sS _, sT _, fun _ => ⟨⟨?_, ?_, ?_, fun e => ?_⟩, by omega⟩⟩
    · rw [e9]
      simp (disch := omega) only [wT_sn]
      exact f3
    · simp (disch := omega) only [wT_sn]
      rw [f3]
      rcases hc with rfl | rfl
      · exact Or.inl rfl
      · exact Or.inr (Or.inl rfl)
    · rw [wT_ss, wT_ss]
    · simp (disch := omega) only [wT_sn] at e
      rw [f3] at e
      exact absurd e n120
theorem s_order (h : TX S TM L χ) (hi : S 0 2 = nI i) (hj : TM 0 8 = nI i) (hL : i ≤ L) : RD L i S TM (m_X3_readOrder S) (m_X6_readsOrder TM) := by
  have h60 := h.1
  have hc := tx_le h i
  have e116 : (116 : Int32) = nI 116 := rfl
  have e115 : (115 : Int32) = nI 115 := rfl
  have e120 : (120 : Int32) = nI 120 := rfl
  unfold m_X3_readOrder m_X6_readsOrder
  have q1 := s_takes h hj hL (c := 116) (by decide) (by decide)
  rw [← e116] at q1
  rw [s_sign h hi hL, bnd_s, nb_char (by omega), gd_t, q1, bnd_s]
  simp only [nm_u]
  rw [wT_ss]
  by_cases h1 : χ i = 116
  · have hlt := tx_lt h (k := i) (by omega)
    rw [decide_eq_true h1, bf_t, if_pos h1, h1, if_pos e116.symm]
    exact rd_mono (sf_w (sf_rf _) (j := 3) (by decide) _) (tf_w (tf_rf _) (j := 8) (by decide) _) (Nat.le_refl _) (t_K (c := 116) (tx_S (tx_T h (by decide) _) (by decide) _) (by rw [wT_sn _ _ _ (by decide)]; exact hi) (wT_ss _ _ _ _) (by omega) (Or.inl rfl) (wT_ss _ _ _ _))
  · have q2 := s_takes h hj hL (c := 115) (by decide) (by decide)
    rw [← e115] at q2
    have n1 : ¬ nI (χ i) = 116 := fun e => h1 (nI_inj (b := 116) (by omega) (by decide) e)
    rw [decide_eq_false h1, bf_f, if_neg h1, wT_id hj, q2, bnd_s, if_neg n1]
    by_cases h2 : χ i = 115
    · have hlt := tx_lt h (k := i) (by omega)
      rw [decide_eq_true h2, bf_t, if_pos h2, h2, if_pos e115.symm]
      exact rd_mono (sf_w (sf_rf _) (j := 3) (by decide) _) (tf_w (tf_rf _) (j := 8) (by decide) _) (Nat.le_refl _) (t_K (c := 115) (tx_S (tx_T h (by decide) _) (by decide) _) (by rw [wT_sn _ _ _ (by decide)]; exact hi) (wT_ss _ _ _ _) (by omega) (Or.inr rfl) (wT_ss _ _ _ _))
    · have n2 : ¬ nI (χ i) = 115 := fun e => h2 (nI_inj (b := 115) (by omega) (by decide) e)
      rw [decide_eq_false h2, bf_f, if_neg h2, wT_id hj, if_neg n2, wT_wT]
      unfold m_X6_readsOrder_31
      simp only [nm_u]
      rw [s_readConker (tx_S h (by decide) _) (by rw [wT_sn _ _ _ (by decide)]; exact hi) hL, bnd_s, s_number (tx_T h (by decide) _) (by rw [wT_sn _ _ _ (by decide)]; exact hj) hL, bnd_s, wT_ss]
      have e9 : ∀ v w : Int32, (wT (wT (wT TM 0 9 120) 0 8 v) 0 10 w) 0 9 = 120 := fun v w => by
        rw [wT_sn _ _ _ (by decide), wT_sn _ _ _ (by decide), wT_ss]
      rw [e9, if_pos rfl, wT_ss]
      obtain ⟨p1, p2⟩ := nP_le h hL
      have sS : ∀ v, SF S (wT (wT (wT S 0 3 120) 0 2 (nI (nP χ i))) 0 4 v) := fun v => sf_w (sf_w (sf_w (sf_rf _) (by decide) _) (by decide) _) (by decide) _
      have sT : ∀ v, TF TM (wT (wT (wT TM 0 9 120) 0 8 (nI (nP χ i))) 0 10 v) := fun v => tf_w (tf_w (tf_w (tf_rf _) (by decide) _) (by decide) _) (by decide) _
      have i2 : ∀ v, (wT (wT (wT S 0 3 120) 0 2 (nI (nP χ i))) 0 4 v) 0 2 = nI (nP χ i) := fun v => by rw [wT_sn _ _ _ (by decide), wT_ss]
      have j2 : ∀ v, (wT (wT (wT TM 0 9 120) 0 8 (nI (nP χ i))) 0 10 v) 0 8 = nI (nP χ i) := fun v => by rw [wT_sn _ _ _ (by decide), wT_ss]
      rcases nV_or h i with ⟨e1, e2⟩ | ⟨v, hv, e1, e2⟩
      · have c0 : ((-5) : Int32) < 0 := by decide
        unfold m_X6_readsOrder_60
        simp only [nm_u]
        rw [wT_ss, e1, if_pos c0, if_pos rfl, if_pos rfl]
        exact ⟨false, _, _, _, rfl, rfl, by omega, p1, i2 _, j2 _, sS _, sT _, fun e => by cases e⟩
      · rw [e1, if_neg (nn0 (by omega)), if_neg (nI_nem5 (by omega))]
        have hx : TX (wT (wT (wT S 0 3 120) 0 2 (nI (nP χ i))) 0 4 (nI v)) (wT (wT (wT TM 0 9 120) 0 8 (nI (nP χ i))) 0 10 (nI v)) L χ := tx_f h (sS _) (sT _)
        have r1 := s_takeC hx (i2 _) p1 (c := 120) (by decide)
        have r2 := s_takes hx (j2 _) p1 (c := 120) (by decide) (by decide)
        rw [← e120] at r1 r2
        rw [r1, bnd_s, r2, bnd_s]
        by_cases hc : χ (nP χ i) = 120
        · have hl2 := tx_lt h (k := nP χ i) (by omega)
          rw [decide_eq_true hc, bf_t, bf_t, if_pos hc]
          refine rd_mono (sf_w (sS _) (by decide) _) (tf_w (sT _) (by decide) _) (k := nP χ i + 1) (by omega) (t_B (tx_S (tx_T hx (by decide) _) (by decide) _) (wT_ss _ _ _ _) (wT_ss _ _ _ _) (by omega) ?_ ?_ ?_)
          · simp (disch := omega) only [wT_sn, wT_ss]
          · simp (disch := omega) only [wT_sn, wT_ss]
          · simp (disch := omega) only [wT_sn, wT_ss]
        · rw [decide_eq_false hc, bf_f, bf_f, if_neg hc, wT_id (i2 _), wT_id (j2 _)]
          exact rd_mono (sS _) (sT _) p2 (t_94f (j2 _) p1 (i2 _) (sf_rf _) rfl)
end ORDER
