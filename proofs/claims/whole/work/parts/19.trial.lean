/-! PUBLIC CALLS: those that try on a copy -/
section TRIAL
variable {M : Mm} {TM : Tm} {n : Nat}
theorem hitR_c (T : Tm) (a b : Nat) (w : Int32) : (hitR T a b w &&& 3 = 2) ↔ (hitR T a b w - hitR T a b w / 4 * 4 = 2) := by
  unfold hitR
  by_cases h1 : hca T a b w = 100
  · rw [if_pos h1]
    by_cases h2 : hcb T a b w = 100
    · rw [if_pos h2]; decide
    · rw [if_neg h2]
      by_cases h3 : hwb T b = 20
      · rw [if_pos h3]; decide
      · rw [if_neg h3]; decide
  · rw [if_neg h1]
    by_cases h4 : hwa T a w = 20
    · rw [if_pos h4]
      by_cases h2 : hcb T a b w = 100
      · rw [if_pos h2]; decide
      · rw [if_neg h2]
        by_cases h3 : hwb T b = 20
        · rw [if_pos h3]; decide
        · rw [if_neg h3]; decide
    · rw [if_neg h4]
      by_cases h2 : hcb T a b w = 100
      · rw [if_pos h2]; decide
      · rw [if_neg h2]
        by_cases h3 : hwb T b = 20
        · rw [if_pos h3]; decide
        · rw [if_neg h3]; decide
/-- both copies at the trial's place -/
theorem tr_cp (hN : Now M TM n) : Iv (cpT (M 3) (M 1)) n ∧ RS (cpT (M 3) (M 1)) (cpM (TM 1) 0 7) 1792 n := by
  have hn := iv_n hN.1
  refine ⟨ag_Iv (cp_Ag _ _) hN.1, ag_RS hn (cp_Ag _ _) (rs_cong hn (fun i hi => ?_) hN.2)⟩
  have := cp_in (s := TM 1) (f := 0) (t := 7) hi
  simpa using this
theorem tr_out (s : Nat → Int32) {x : Nat} (hx : x < 1792) : cpM s 0 7 x = s x := cp_out (by omega)
theorem q07 (TM : Tm) : m_X6_copies 0 7 TM = some (0, sS TM (cpM (TM 1) 0 7)) := s_copies (f := 0) (t := 7) (by decide) (by decide) (by decide) TM
theorem s_try (hN : Now M TM n) (hr : Rst M TM) {i j : Nat} (hi : i < n) (hj : j < n) (hij : i ≠ j) (h9i : M 1 9 i = 0) (h9j : M 1 9 j = 0) (w : Int32) : ∃ (r : Int32) (M' : Mm) (TM1 TM' : Tm), m_X5_tryHit (nI i) (nI j) w M = some (r, M') ∧ m_X6_copies 0 7 TM = some (0, TM1) ∧ m_X6_strikes 1792 (nI i) (nI j) w TM1 = some (r, TM') ∧ M' 1 = M 1 ∧ Now M' TM' n ∧ Rst M' TM' ∧ ((r &&& 3 = 2) ↔ (r - r / 4 * 4 = 2)) := by
  obtain ⟨t1, t2⟩ := tr_cp hN
  have hn := iv_n hN.1
  have ag := cp_Ag (M 3) (M 1)
  have k9i : cpT (M 3) (M 1) 9 i = 0 := by rw [ag.2.2.2.2 9 (by decide) (by decide) i (by omega)]; exact h9i
  have k9j : cpT (M 3) (M 1) 9 j = 0 := by rw [ag.2.2.2.2 9 (by decide) (by decide) j (by omega)]; exact h9j
  have st := s_strikes (o := 1792) (TM := sS TM (cpM (TM 1) 0 7)) t1 (by rw [sS_1]; exact t2) (by decide) hi hj hij w
  have out : ∀ x, x < 1792 → sK (cpT (M 3) (M 1)) (cpM (TM 1) 0 7) 1792 i j w x = TM 1 x := fun x hx => by
    rw [sK_out (by omega) (by omega) hij w (Or.inl (by omega)), tr_out _ hx]
  refine ⟨hitR (cpT (M 3) (M 1)) i j w, uM M 3 (hitT (cpT (M 3) (M 1)) i j w), sS TM (cpM (TM 1) 0 7), sS TM (sK (cpT (M 3) (M 1)) (cpM (TM 1) 0 7) 1792 i j w), ?_, q07 TM, ?_, uM_ne _ _ _ (by decide), ⟨?_, ?_⟩, rst_fr (frM_u (by omega)) (frT_s (fun x _ h2 => out x h2)) hr, hitR_c _ _ _ _⟩
  · unfold m_X5_tryHit
    rw [s_copyFrom (by decide), bnd_s, uM_same, s_hit t1 hi hj hij k9i k9j w, bnd_s, nm_u, uM_uM]
  · rw [sS_1, sS_sS] at st
    exact st
  · rw [uM_ne _ _ _ (by decide)]; exact hN.1
  · rw [uM_ne _ _ _ (by decide), sS_1]
    exact rs_cong hn (fun x hx => out _ (by omega)) hN.2
theorem op_ifStruck (a b c : Int32) : OP (m_X5_ifStruck a b c) (m_X6_ifStruck a b c) := by
  intro M TM ⟨⟨n, hN⟩, hr⟩
  have h := hN.1
  have hR := hN.2
  have hn := iv_n h
  unfold m_X5_ifStruck m_X6_ifStruck
  rw [s_strikeError h, bnd_s, nm_u, uM_self, s_strikeErrorM hn hR, bnd_s]
  by_cases h0 : pE (M 1) n a b (wi c 1 9) = 0
  · obtain ⟨i, j, hi, hj, rfl, rfl, _, hij, _, h9i, h9j⟩ := pE_0 hn h0
    obtain ⟨r, M', TM1, TM', e1, e2, e3, e4, e5, e6, e7⟩ := s_try hN hr hi hj hij h9i h9j c
    rw [if_pos h0, if_pos h0, e1, bnd_s, e2, bnd_s, e3, bnd_s]
    exact ⟨_, _, _, rfl, rfl, ⟨n, e5⟩, e6⟩
  · rw [if_neg h0, if_neg h0]
    exact ⟨_, _, _, rfl, rfl, ⟨n, hN⟩, hr⟩
theorem ls_l {i j : Nat} (hij : i ≠ j) : ∀ (m k : Nat) (M : Mm) (TM : Tm), k ≤ 10 → 10 - k < m → Now M TM n → Rst M TM → i < n → j < n → M 1 9 i = 0 → M 1 9 j = 0 → ∃ (r : Int32) (M' : Mm) (TM' : Tm), m_X5_leastSwing_20 m (nI i) (nI j) (nI k) M = some (r, M') ∧ m_X6_leastSwing_17 m (nI i) (nI j) (nI k) TM = some (r, TM') ∧ Rel M' TM' := by
  intro m
  induction m with
  | zero => intro k M TM _ h; omega
  | succ m ih =>
    intro k M TM hk hm hN hr hi hj h9i h9j
    rw [m_X5_leastSwing_20.eq_2, m_X6_leastSwing_17.eq_2]
    by_cases h9 : k = 10
    · subst h9
      have c : (9 : Int32) < nI 10 := by decide
      rw [if_pos c, if_pos c]
      exact ⟨_, _, _, rfl, rfl, ⟨n, hN⟩, hr⟩
    · have c : ¬ (9 : Int32) < nI k := fun e => (i_lt_nle.mp e) (nI_le (b := 9) (by omega) (by omega))
      obtain ⟨r, M', TM1, TM', e1, e2, e3, e4, e5, e6, e7⟩ := s_try hN hr hi hj hij h9i h9j (nI k)
      have g : (!decide ((4 : Int32) = 0)) = true := by decide
      rw [if_neg c, if_neg c, e1, bnd_s, e2, bnd_s, e3, bnd_s, g, gd_t]
      by_cases h2 : r &&& 3 = 2
      · rw [if_pos h2, if_pos (e7.mp h2)]
        exact ⟨_, _, _, rfl, rfl, ⟨n, e5⟩, e6⟩
      · rw [if_neg h2, if_neg (fun e => h2 (e7.mpr e)), nI_p1]
        exact ih (k + 1) M' TM' (by omega) (by omega) e5 e6 hi hj (by rw [e4]; exact h9i) (by rw [e4]; exact h9j)
theorem op_leastSwing (a b : Int32) : OP (m_X5_leastSwing a b) (m_X6_leastSwing a b) := by
  intro M TM ⟨⟨n, hN⟩, hr⟩
  have h := hN.1
  have hR := hN.2
  have hn := iv_n h
  unfold m_X5_leastSwing m_X6_leastSwing
  rw [s_strikeError h, bnd_s, nm_u, uM_self, s_strikeErrorM hn hR, bnd_s]
  by_cases h0 : pE (M 1) n a b (wi 1 1 9) = 0
  · obtain ⟨i, j, hi, hj, rfl, rfl, _, hij, _, h9i, h9j⟩ := pE_0 hn h0
    rw [if_pos h0, if_pos h0]
    exact ls_l hij fu 1 M TM (by decide) (by unfold fu; omega) hN hr hi hj h9i h9j
  · rw [if_neg h0, if_neg h0]
    exact ⟨_, _, _, rfl, rfl, ⟨n, hN⟩, hr⟩
theorem op_winner (a b c : Int32) : OP (m_X5_winner a b c) (m_X6_winner a b c) := by
  intro M TM ⟨⟨n, hN⟩, hr⟩
  have h := hN.1
  have hR := hN.2
  have hn := iv_n h
  unfold m_X5_winner m_X6_winner
  rw [s_boutError h, bnd_s, nm_u, uM_self, s_boutErrorM hn hR, bnd_s]
  by_cases h0 : pE (M 1) n a b (wi c 0 65535) = 0
  · obtain ⟨i, j, hi, hj, rfl, rfl, _, hij, _, h9i, h9j⟩ := pE_0 hn h0
    obtain ⟨t1, t2⟩ := tr_cp hN
    have ag := cp_Ag (M 3) (M 1)
    have k9i : cpT (M 3) (M 1) 9 i = 0 := by rw [ag.2.2.2.2 9 (by decide) (by decide) i (by omega)]; exact h9i
    have k9j : cpT (M 3) (M 1) 9 j = 0 := by rw [ag.2.2.2.2 9 (by decide) (by decide) j (by omega)]; exact h9j
    have u3 : ∀ X, uM (uM M 3 (cpT (M 3) (M 1))) 10 X 3 = cpT (M 3) (M 1) := fun X => by rw [uM_ne _ _ _ (by decide), uM_same]
    obtain ⟨r, M', TM', f1, f2, f3, f4, f5, f6, f7⟩ := s_fight (k := 3) (o := 1792) (n := n) (M := uM (uM M 3 (cpT (M 3) (M 1))) 10 (wT (uM M 3 (cpT (M 3) (M 1)) 10) 0 0 c)) (TM := wT (sS TM (cpM (TM 1) 0 7)) 0 5 c) (by decide) (by decide) (by rw [u3]; exact t1) (by rw [u3, wT_ne _ _ _ (by decide), sS_1]; exact t2) (by rw [uM_same, wT_ss, wT_ss]) hi hj hij (by rw [u3]; exact J2_play t1 k9i k9j)
    have hr' : Rst M' TM' := fk_rst (Or.inr ⟨rfl, rfl⟩) f6 (rst_fr (frM_tr (frM_u (by omega)) (frM_u (by omega))) (frT_tr (frT_s (fun x _ h2 => tr_out _ h2)) (fr_x c)) hr)
    have e1 : M' 1 = M 1 := by rw [f6.1 1 (by decide) (by decide), uM_ne _ _ _ (by decide), uM_ne _ _ _ (by decide)]
    have hN' : Now M' TM' n := by
      refine ⟨by rw [e1]; exact h, ?_⟩
      rw [e1]
      refine rs_cong hn (fun x hx => ?_) hR
      rw [f6.2.2.2.2.2 _ (by omega), wT_ne _ _ _ (by decide), sS_1, tr_out _ (by omega)]
    have q7i : TM' 1 (1792 + 16 + 8 * i + 7) = M' 3 10 i := rsf f5 7 (by decide) hi
    have q7j : TM' 1 (1792 + 16 + 8 * j + 7) = M' 3 10 j := rsf f5 7 (by decide) hj
    have z : (1792 : Int32) = nI 1792 := rfl
    rw [if_pos h0, if_pos h0, s_copyFrom (by decide), bnd_s]
    unfold m_X0_begin
    rw [nm_u, bnd_s, nm_u, f1, bnd_s, ib_nI (show i < 30 by omega) (by decide), gd_t, nm_u, cl_nI (show i < 2 ^ 31 by omega), q07, bnd_s, nm_u]
    rw [z, f2, bnd_s, s_at, bnd_s, nI_p7, ib_nI (by omega) (by decide), gd_t, nm_u, cl_nI (by omega), q7i, s_at]
    simp only [bnd_s, nI_p7]
    rw [ib_nI (by omega) (by decide)]
    simp only [gd_t, nm_u]
    rw [cl_nI (by omega), q7j]
    unfold m_X5_winner_71 m_X5_winner_91
    rw [ib_nI (show j < 30 by omega) (by decide), cl_nI (show j < 2 ^ 31 by omega)]
    simp only [gd_t, nm_u]
    have j5 : ∀ x, x < n → ¬ nI x = (-5) := fun x hx => nI_nem5 (by omega)
    have d1 : ((1 : Int32) = 0) = False := eq_false (by decide)
    have d2 : ((0 : Int32) = 1) = False := eq_false (by decide)
    by_cases g1 : M' 3 9 i = 2
    · by_cases g2 : M' 3 9 j = 2
      · obtain ⟨x1, x2⟩ := f7.1 g1 g2
        simp only [g1, g2, x1, x2, if_true]
        exact ⟨_, _, _, rfl, rfl, ⟨n, hN'⟩, hr'⟩
      · have x1 := f7.2.1 g1 g2
        simp only [g1, g2, x1, if_true, if_false, d1, j5 j hj]
        exact ⟨_, _, _, rfl, rfl, ⟨n, hN'⟩, hr'⟩
    · have x5 : M' 3 10 i = (-5) := by
        by_cases e : M' 3 10 i = (-5)
        · exact e
        · exact absurd (iv_by2 f4 i hi e) g1
      by_cases g2 : M' 3 9 j = 2
      · have x1 := f7.2.2 g2 g1
        simp only [g1, g2, x1, x5, if_true, if_false, d2]
        exact ⟨_, _, _, rfl, rfl, ⟨n, hN'⟩, hr'⟩
      · have x6 : M' 3 10 j = (-5) := by
          by_cases e : M' 3 10 j = (-5)
          · exact e
          · exact absurd (iv_by2 f4 j hj e) g2
        simp only [g1, g2, x5, x6, if_true, if_false]
        exact ⟨_, _, _, rfl, rfl, ⟨n, hN'⟩, hr'⟩
  · rw [if_neg h0, if_neg h0]
    exact ⟨_, _, _, rfl, rfl, ⟨n, hN⟩, hr⟩
end TRIAL
