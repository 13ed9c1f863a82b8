/-! FAULT and RUN -/
section RUN
variable {S TM : Tm} {M : Mm} {L n : Nat} {χ : Nat → Nat}
theorem b10 : ¬ (1 : Int32) = 0 := by decide
theorem s_fault_l : ∀ (m mm b i : Nat) (S TM : Tm), 2 * b ≤ i → i ≤ L → TX S TM L χ → S 0 2 = nI i → TM 0 8 = nI i → 60 - b < m → 61 - b < mm → ∃ (r : Int32) (S' TM' : Tm), m_X3_findFault_6 m (nI b) S = some (r, S') ∧ m_X6_fault_7 mm 1 TM = some (r, TM') ∧ SF S S' ∧ TF TM TM' := by
  intro m
  induction m with
  | zero => intro mm b i S TM _ _ _ _ _ h; omega
  | succ m ih =>
    intro mm b i S TM h2 hL hx hi hj hm hmm
    have h60 := hx.1
    cases mm with
    | zero => omega
    | succ mm =>
      have c60 : ¬ (60 : Int32) ≤ nI b := nI_ge (b := 60) (by omega) (by decide)
      rw [m_X3_findFault_6.eq_2, m_X6_fault_7.eq_2, if_neg c60, if_neg b10]
      obtain ⟨ok, i', S', TM', e1, e2, e3, e4, e5, e6, e7, e8, e9⟩ := s_order hx hi hj hL
      have hx' := tx_f hx e7 e8
      rw [e1, bnd_s, e2, bnd_s]
      cases ok with
      | false =>
        rw [bf_f, bf_f, nm_u, nm_u, e5, e6]
        exact ⟨_, _, _, rfl, rfl, e7, e8⟩
      | true =>
        have hlt := (e9 rfl).2
        have e44 : (44 : Int32) = nI 44 := rfl
        have q1 := s_takeC hx' e5 e4 (c := 44) (by decide)
        have q2 := s_takes hx' e6 e4 (c := 44) (by decide) (by decide)
        rw [← e44] at q1 q2
        rw [bf_t, bf_t, nm_u, nm_u, e5, hx'.2.1, q2, bnd_s]
        by_cases hiL : i' = L
        · subst hiL
          have z : χ i' = 0 := hx'.2.2.2.2 i' (Nat.le_refl _)
          have z2 : ¬ χ i' = 44 := by omega
          cases mm with
          | zero => omega
          | succ mm =>
            rw [if_pos rfl, decide_eq_false z2, if_neg z2, wT_id e6, m_X6_fault_7.eq_2, bf_f, nm_u, nm_u, e6, hx'.2.2.1, if_pos rfl]
            exact ⟨_, _, _, rfl, rfl, e7, e8⟩
        · rw [if_neg (fun e => hiL (nI_inj (by omega) (by omega) e)), q1, bnd_s]
          by_cases hc : χ i' = 44
          · have hl2 := tx_lt hx' (k := i') (by omega)
            rw [decide_eq_true hc, bf_t, if_pos hc, nI_p1]
            obtain ⟨r, S2, TM2, g1, g2, g3, g4⟩ := ih mm (b + 1) (i' + 1) (wT S' 0 2 (nI (i' + 1))) (wT TM' 0 8 (nI (i' + 1))) (by omega) (by omega) (tx_S (tx_T hx' (by decide) _) (by decide) _) (wT_ss _ _ _ _) (wT_ss _ _ _ _) (by omega) (by omega)
            exact ⟨r, S2, TM2, g1, g2, sf_tr (sf_w e7 (by decide) _) g3, tf_tr (tf_w e8 (by decide) _) g4⟩
          · cases mm with
            | zero => omega
            | succ mm =>
              rw [decide_eq_false hc, bf_f, if_neg hc, wT_id e5, wT_id e6, nm_u, e5, m_X6_fault_7.eq_2, bf_f]
              simp only [nm_u]
              rw [e6, hx'.2.2.1, if_neg (fun e => hiL (nI_inj (by omega) (by omega) e))]
              exact ⟨_, _, _, rfl, rfl, e7, e8⟩
theorem s_fault (hx : TX S TM L χ) : ∃ (r : Int32) (S' TM' : Tm), m_X3_findFault S = some (r, S') ∧ m_X6_fault TM = some (r, TM') ∧ SF S S' ∧ TF TM TM' := by
  unfold m_X3_findFault m_X3_rewind m_X6_fault
  rw [nm_u, bnd_s, nm_u]
  obtain ⟨r, S', TM', g1, g2, g3, g4⟩ := s_fault_l fu fu 0 0 (wT S 0 2 0) (wT TM 0 8 0) (by decide) (Nat.zero_le _) (tx_S (tx_T hx (by decide) _) (by decide) _) (wT_ss _ _ _ _) (wT_ss _ _ _ _) (by unfold fu; omega) (by unfold fu; omega)
  exact ⟨r, S', TM', g1, g2, sf_tr (sf_w (sf_rf _) (j := 2) (by decide) _) g3, tf_tr (tf_w (tf_rf _) (j := 8) (by decide) _) g4⟩
theorem rel_9 {S' TM' : Tm} (hN : Now M TM n) (hr : Rst M TM) (h1 : SF (M 9) S') (h2 : TF TM TM') : Now (uM M 9 S') TM' n ∧ Rst (uM M 9 S') TM' := by
  obtain ⟨L, t1, t2, t3, t4⟩ := hr.2.2
  have e1 := h2.1 1 (by decide)
  refine ⟨now_9 _ hN e1, rst_9 (L := L) hr e1 (h2.2 1 (by decide)) (h2.2 2 (by decide)) ⟨t1, ?_, (h2.2 4 (by decide)).trans t3, fun j hj => ?_⟩⟩
  · rw [uM_same]; exact h1.1.trans t2
  · rw [uM_same, h1.2, h2.1 2 (by decide)]
    exact t4 j hj
theorem op_fault : OP m_X5_fault m_X6_fault := by
  intro M TM ⟨⟨n, hN⟩, hr⟩
  obtain ⟨L, hT⟩ := hr.2.2
  obtain ⟨χ, hx⟩ := tx_of hT
  obtain ⟨r, S', TM', g1, g2, g3, g4⟩ := s_fault hx
  obtain ⟨k1, k2⟩ := rel_9 hN hr g3 g4
  unfold m_X5_fault
  rw [g1, bnd_s, nm_u, g2]
  exact ⟨_, _, _, rfl, rfl, ⟨n, k1⟩, k2⟩
theorem pE_neg (T : Tm) (n : Nat) (a b : Int32) (v : Bool) (h : ¬ pE T n a b v = 0) : pE T n a b v < 0 := by
  unfold pE at h ⊢
  by_cases h1 : hC a n = true ∧ hC b n = true
  · rw [if_pos h1] at h ⊢
    by_cases h2 : v = true
    · rw [if_pos h2] at h ⊢
      by_cases h3 : T 3 a.toNatClampNeg = T 3 b.toNatClampNeg ∨ ¬ (T 9 a.toNatClampNeg = 0 ∧ T 9 b.toNatClampNeg = 0)
      · rw [if_pos h3]; decide
      · rw [if_neg h3] at h; exact absurd rfl h
    · rw [if_neg h2]; decide
  · rw [if_neg h1]; decide
theorem fE_neg (T : Tm) (n : Nat) (a : Int32) (h : ¬ fE T n a = 0) : fE T n a < 0 := by
  unfold fE at h ⊢
  by_cases h1 : hC a n = true
  · rw [if_pos h1] at h ⊢
    by_cases h2 : T 9 a.toNatClampNeg = 1
    · rw [if_pos h2] at h; exact absurd rfl h
    · rw [if_neg h2]; decide
  · rw [if_neg h1]; decide
theorem mE_neg (T : Tm) (n : Nat) (a : Int32) (h : ¬ mE T n a = 0) : mE T n a < 0 := by
  unfold mE at h ⊢
  by_cases h1 : fE T n a = 0
  · rw [if_pos h1] at h ⊢
    by_cases h2 : 1 ≤ T 1 (T 3 a.toNatClampNeg).toNatClampNeg
    · rw [if_pos h2] at h; exact absurd rfl h
    · rw [if_neg h2]; decide
  · rw [if_neg h1]
    exact fE_neg T n a h1
theorem hitR_pos (T : Tm) (a b : Nat) (w : Int32) : 0 ≤ hitR T a b w := by
  unfold hitR
  by_cases h1 : hca T a b w = 100 <;> by_cases h2 : hcb T a b w = 100 <;> by_cases h3 : hwb T b = 20 <;> by_cases h4 : hwa T a w = 20 <;> simp only [h1, h2, h3, h4, if_true, if_false] <;> decide
theorem r_mend {T : Tm} (h : Iv T n) {a : Int32} (h0 : mE T n a = 0) {r : Int32} {T' : Tm} (e : m_X4_threadAgain a T = some (r, T')) : 0 ≤ r := by
  have hn := iv_n h
  obtain ⟨i, p, j, hi, rfl, h9, hp, e3, hj, hj2, e1⟩ := mE_0 h h0
  unfold m_X4_threadAgain at e
  rw [ib_nI (by omega) (by decide)] at e
  simp only [gd_t] at e
  rw [nm_u, cl_nI (by omega), e3, ib_nI hp (by decide)] at e
  simp only [gd_t] at e
  rw [nm_u, cl_nI (by omega), e1, nI_m1 hj, nm_u, nm_u, nm_u, nm_u] at e
  simp (disch := omega) only [wT_n, wT_ss] at e
  cases e
  exact nI_pos' (by omega)
theorem r_stamp {T : Tm} (h : Iv T n) {a : Int32} (h0 : fE T n a = 0) {r : Int32} {T' : Tm} (e : m_X4_crush a T = some (r, T')) : 0 ≤ r := by
  have hn := iv_n h
  obtain ⟨i, hi, rfl, h9⟩ := fE_0 hn h0
  obtain ⟨j, hj, e7⟩ := iv_vle h hi
  rw [s_crush (by omega)] at e
  cases e
  rw [e7]
  exact nI_pos' (by omega)
theorem act_fin2 {n' : Nat} {C R : Option (Int32 × Tm)} (hr : Rst M TM) (h : ACT (M 1) TM n' C R) : ∃ (r : Int32) (T' : Tm) (s' : Nat → Int32), C = some (r, T') ∧ R = some (r, sS TM s') ∧ Now (uM M 1 T') (sS TM s') n' ∧ Rst (uM M 1 T') (sS TM s') := by
  obtain ⟨r, T', s', e1, e2, i, q, o⟩ := h
  refine ⟨r, T', s', e1, e2, ⟨?_, ?_⟩, rst_fr (frM_u (Or.inl rfl)) (frT_s (fun x hx _ => o x hx)) hr⟩
  · rw [uM_same]; exact i
  · rw [uM_same, sS_1]; exact q
theorem s_carry (hN : Now M TM n) (hr : Rst M TM) (hO : OA (M 9) TM) :
    (∃ e : Int32, e < 0 ∧ ¬ e = 0 ∧ m_X5_carryOutOrder M = some (e, M) ∧ m_X6_orderError TM = some (e, TM)) ∨
    (∃ (r : Int32) (T' : Tm) (s' : Nat → Int32), 0 ≤ r ∧ m_X5_carryOutOrder M = some (r, uM M 1 T') ∧ m_X6_orderError TM = some (0, TM) ∧ m_X6_does TM = some (r, sS TM s') ∧ Now (uM M 1 T') (sS TM s') n ∧ Rst (uM M 1 T') (sS TM s')) := by
  have h := hN.1
  have hR := hN.2
  have hn := iv_n h
  obtain ⟨o1, o2, o3, o4⟩ := hO
  unfold m_X5_carryOutOrder m_X6_orderError m_X6_does
  simp only [nm_u]
  rw [← o1]
  rcases o2 with k | k | k
  · -- a mend
    have n1 : ¬ (116 : Int32) = 115 := by decide
    rw [k, if_neg n1, if_pos rfl, if_pos rfl, if_pos rfl, ← o3, s_mendError h, bnd_s, uM_self, s_mendErrorM h hR, bnd_s]
    by_cases h0 : mE (M 1) n (M 9 0 4) = 0
    · obtain ⟨r, T', s', e1, e2, e3, e4⟩ := act_fin2 hr (a_mend h hR h0)
      refine Or.inr ⟨r, T', s', r_mend h h0 e1, ?_, ?_, ?_, e3, e4⟩
      · rw [if_pos h0, e1, bnd_s]
      · rw [h0]
      · rw [e2, bnd_s]
    · refine Or.inl ⟨_, mE_neg _ _ _ h0, h0, ?_, rfl⟩
      rw [if_neg h0]
  · -- a stamp
    have n1 : ¬ (115 : Int32) = 116 := by decide
    rw [k, if_pos rfl, if_neg n1, if_pos rfl, if_neg n1, if_pos rfl, ← o3, s_fallenError h, bnd_s, uM_self, s_stampErrorM hn hR, bnd_s]
    by_cases h0 : fE (M 1) n (M 9 0 4) = 0
    · obtain ⟨r, T', s', e1, e2, e3, e4⟩ := act_fin2 hr (a_stamp h hR h0)
      refine Or.inr ⟨r, T', s', r_stamp h h0 e1, ?_, ?_, ?_, e3, e4⟩
      · rw [if_pos h0, e1, bnd_s]
      · rw [h0]
      · rw [e2, bnd_s]
    · refine Or.inl ⟨_, fE_neg _ _ _ h0, h0, ?_, rfl⟩
      rw [if_neg h0]
  · -- a strike
    have n1 : ¬ (120 : Int32) = 116 := by decide
    have n2 : ¬ (120 : Int32) = 115 := by decide
    obtain ⟨o5, o6⟩ := o4 k
    rw [k, if_neg n2, if_neg n1, if_neg n1, if_neg n2, if_neg n1, if_neg n2, ← o3, ← o5, ← o6, s_strikeError h, bnd_s, uM_self, s_strikeErrorM hn hR, bnd_s]
    by_cases h0 : pE (M 1) n (M 9 0 4) (M 9 0 5) (wi (M 9 0 6) 1 9) = 0
    · obtain ⟨i, j, hi, hj, ei, ej, _, hij, _, h9i, h9j⟩ := pE_0 hn h0
      rw [ei, ej] at h0 ⊢
      obtain ⟨r, T', s', e1, e2, e3, e4⟩ := act_fin2 hr (a_hit h hR hi hj hij h9i h9j (M 9 0 6))
      have er : 0 ≤ r := by
        have e5 := s_hit h hi hj hij h9i h9j (M 9 0 6)
        rw [e1] at e5
        cases e5
        exact hitR_pos _ _ _ _
      refine Or.inr ⟨r, T', s', er, ?_, ?_, ?_, e3, e4⟩
      · rw [if_pos h0, e1, bnd_s]
      · rw [h0]
      · rw [e2, bnd_s]
    · refine Or.inl ⟨_, pE_neg _ _ _ _ _ h0, h0, ?_, rfl⟩
      rw [if_neg h0]
theorem run_end (κ : Int32 → Int32 → Tm → Option (Int32 × Tm)) (b : Int32) (T : Tm) : m_X6_run_51 κ b T = κ (b + 0) 0 T := by
  unfold m_X6_run_51 m_X6_run_52 m_X6_run_68
  rw [if_pos rfl, s_flag, bnd_s, if_pos rfl, if_pos rfl]
  rfl
theorem s_run_l : ∀ (m mm b i n : Nat) (M : Mm) (TM : Tm), 2 * b ≤ i → i ≤ L → Now M TM n → Rst M TM → TX (M 9) TM L χ → M 9 0 2 = nI i → TM 0 8 = nI i → 60 - b < m → 61 - b < mm → ∃ (r : Int32) (M' : Mm) (TM' : Tm), m_X5_run_39 m (nI b) M = some (r, M') ∧ m_X6_run_29 mm (nI b) 1 TM = some (r, TM') ∧ Rel M' TM' := by
  intro m
  induction m with
  | zero => intro mm b i n M TM _ _ _ _ _ _ _ h; omega
  | succ m ih =>
    intro mm b i n M TM h2 hL hN hr hx hi hj hm hmm
    have h60 := hx.1
    have z0 : nI b + 0 = nI b := Int32.add_zero _
    cases mm with
    | zero => omega
    | succ mm =>
      cases mm with
      | zero => omega
      | succ mm =>
        have c60 : ¬ (60 : Int32) ≤ nI b := nI_ge (b := 60) (by omega) (by decide)
        obtain ⟨ok, i', S', TM', e1, e2, e3, e4, e5, e6, e7, e8, e9⟩ := s_order hx hi hj hL
        have hx' := tx_f hx e7 e8
        obtain ⟨hN', hr'⟩ := rel_9 hN hr e7 e8
        have u9 : (uM M 9 S') 9 = S' := uM_same _ _ _
        have stop : ∀ (c : Int32) (T : Tm), m_X6_run_29 (mm + 1) c 0 T = some (c, T) := fun c T => by rw [m_X6_run_29.eq_2, if_pos rfl]
        rw [m_X5_run_39.eq_2, m_X6_run_29.eq_2, if_neg c60, if_neg b10, e1, bnd_s, nm_u, e2, bnd_s]
        unfold m_X5_run_79
        cases ok with
        | false =>
          rw [bf_f, bf_f, run_end, z0, stop]
          exact ⟨_, _, _, rfl, rfl, ⟨n, hN'⟩, hr'⟩
        | true =>
          obtain ⟨hO, hlt⟩ := e9 rfl
          rw [bf_t, bf_t]
          rcases s_carry hN' hr' (by rw [u9]; exact hO) with ⟨e, d1, d2, d3, d4⟩ | ⟨r, T', s', d1, d2, d3, d4, d5, d6⟩
          · rw [d3, bnd_s, if_pos d1, d4, bnd_s, if_neg d2, run_end, z0, stop]
            exact ⟨_, _, _, rfl, rfl, ⟨n, hN'⟩, hr'⟩
          · have dn : ¬ r < 0 := fun e => i_lt_nle.mp e d1
            have u92 : (uM (uM M 9 S') 1 T') 9 = S' := by rw [uM_ne _ _ _ (by decide), uM_same]
            have hx2 : TX S' (sS TM' s') L χ := by
              obtain ⟨a1, a2, a3, a4, a5⟩ := hx'
              exact ⟨a1, a2, by rw [sS_n _ _ (by decide)]; exact a3, fun j hj => by rw [sS_n _ _ (by decide)]; exact a4 j hj, a5⟩
            have e44 : (44 : Int32) = nI 44 := rfl
            have j6 : (sS TM' s') 0 8 = nI i' := by rw [sS_n _ _ (by decide)]; exact e6
            have q1 := s_takeC hx2 e5 e4 (c := 44) (by decide)
            have q2 := s_takes hx2 j6 e4 (c := 44) (by decide) (by decide)
            rw [← e44] at q1 q2
            rw [d2, bnd_s, if_neg dn, d3, bnd_s, if_pos rfl, u92, q1, bnd_s, nm_u]
            unfold m_X6_run_52
            rw [if_neg b10, d4, bnd_s]
            unfold m_X6_run_68
            rw [s_flag, bnd_s, if_neg b10, if_neg b10, q2, bnd_s]
            unfold m_X6_run_96 m_X6_run_97
            by_cases hc : χ i' = 44
            · have hl2 := tx_lt hx' (k := i') (by omega)
              have hx3 : TX (wT S' 0 2 (nI (i' + 1))) (wT (sS TM' s') 0 8 (nI (i' + 1))) L χ := tx_S (tx_T hx2 (by decide) _) (by decide) _
              obtain ⟨k1, k2⟩ := rel_9 (S' := wT S' 0 2 (nI (i' + 1))) (TM' := wT (sS TM' s') 0 8 (nI (i' + 1))) d5 d6 (by rw [u92]; exact sf_w (sf_rf _) (by decide) _) (tf_w (tf_rf _) (by decide) _)
              rw [decide_eq_true hc, bf_t, bf_t, if_pos hc, nI_p1]
              exact ih (mm + 1) (b + 1) (i' + 1) n _ _ (by omega) (by omega) k1 k2 (by rw [uM_same]; exact hx3) (by rw [uM_same]; exact wT_ss _ _ _ _) (wT_ss _ _ _ _) (by omega) (by omega)
            · obtain ⟨k1, k2⟩ := rel_9 (S' := S') (TM' := sS TM' s') d5 d6 (by rw [u92]; exact sf_rf _) (tf_rf _)
              rw [decide_eq_false hc, bf_f, bf_f, if_neg hc, wT_id e5, wT_id j6, stop]
              exact ⟨_, _, _, rfl, rfl, ⟨n, k1⟩, k2⟩
theorem op_run : OP m_X5_run m_X6_run := by
  intro M TM ⟨⟨n, hN⟩, hr⟩
  obtain ⟨L, hT⟩ := hr.2.2
  obtain ⟨χ, hx⟩ := tx_of hT
  obtain ⟨r, S', TM', g1, g2, g3, g4⟩ := s_fault hx
  obtain ⟨k1, k2⟩ := rel_9 hN hr g3 g4
  unfold m_X5_run m_X6_run
  rw [g1, bnd_s, nm_u, g2, bnd_s]
  by_cases h5 : r = (-5)
  · obtain ⟨M2, TM2, f1, f2, f3, f4, f5⟩ := s_keep k1 k2
    obtain ⟨L2, hT2⟩ := f4.2.2
    obtain ⟨χ2, hx2⟩ := tx_of hT2
    have hx3 : TX (wT (M2 9) 0 2 0) (wT TM2 0 8 0) L2 χ2 := tx_S (tx_T hx2 (by decide) _) (by decide) _
    obtain ⟨l1, l2⟩ := rel_9 (S' := wT (M2 9) 0 2 0) (TM' := wT TM2 0 8 0) f3 f4 (sf_w (sf_rf _) (by decide) _) (tf_w (tf_rf _) (by decide) _)
    rw [if_pos h5, if_pos h5, f1, bnd_s, f2, bnd_s]
    unfold m_X3_rewind
    rw [nm_u, bnd_s, nm_u, nm_u]
    exact s_run_l fu fu 0 0 n _ _ (by decide) (Nat.zero_le _) l1 l2 (by rw [uM_same]; exact hx3) (by rw [uM_same]; exact wT_ss _ _ _ _) (wT_ss _ _ _ _) (by unfold fu; omega) (by unfold fu; omega)
  · rw [if_neg h5, if_neg h5]
    exact ⟨_, _, _, rfl, rfl, ⟨n, k1⟩, k2⟩
end RUN
