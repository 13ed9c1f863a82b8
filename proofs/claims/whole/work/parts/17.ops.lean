/-! PUBLIC CALLS: those that keep a state and act -/
section OPS
theorem bf_f {ρ : Type} (A B : ρ) : (if bI false = 0 then A else B) = A := if_pos rfl
theorem bf_t {ρ : Type} (A B : ρ) : (if bI true = 0 then A else B) = B := if_neg (by decide)
theorem wi_n {a : Int32} {b c : Nat} (h : wi a (nI b) (nI c) = true) (hb : b < 2 ^ 31) (hc : c < 2 ^ 31) : ∃ j, b ≤ j ∧ j ≤ c ∧ a = nI j := by
  simp only [wi, Bool.and_eq_true, decide_eq_true_eq] at h
  obtain ⟨h1, h2⟩ := h
  have g1 := Int32.le_iff_toInt_le.mp h1
  have g2 := Int32.le_iff_toInt_le.mp h2
  rw [nI_toI hb] at g1
  rw [nI_toI hc] at g2
  obtain ⟨j, hj, rfl⟩ := nI_of (x := a) (by
    intro h3
    have h5 := Int32.lt_iff_toInt_lt.mp h3
    have h6 : (0 : Int32).toInt = 0 := rfl
    omega)
  rw [nI_toI hj] at g1 g2
  exact ⟨j, by omega, by omega, rfl⟩
/-- a call of both sides: alike, and related behind it -/
def OP (C : Mm → Option (Int32 × Mm)) (R : Tm → Option (Int32 × Tm)) : Prop := ∀ (M : Mm) (TM : Tm), Rel M TM → ∃ (r : Int32) (M' : Mm) (TM' : Tm), C M = some (r, M') ∧ R TM = some (r, TM') ∧ Rel M' TM'
variable {M : Mm} {TM : Tm} {n : Nat}
theorem act_fin {n' : Nat} {C R : Option (Int32 × Tm)} (hr : Rst M TM) (h : ACT (M 1) TM n' C R) : ∃ (r : Int32) (T' TM' : Tm), C = some (r, T') ∧ R = some (r, TM') ∧ Rel (uM M 1 T') TM' := by
  obtain ⟨r, T', s', e1, e2, i, q, o⟩ := h
  refine ⟨r, T', sS TM s', e1, e2, ⟨n', ?_, ?_⟩, rst_fr (frM_u (Or.inl rfl)) (frT_s (fun x hx _ => o x hx)) hr⟩
  · rw [uM_same]; exact i
  · rw [uM_same, sS_1]; exact q
theorem kf_1 {M' : Mm} {TM' : Tm} (h : KF M M' TM TM') : M' 1 = M 1 := h.1 1 (by decide) (by omega)
theorem op_thread (a b : Int32) : OP (m_X5_thread a b) (m_X6_thread a b) := by
  intro M TM ⟨⟨n, hN⟩, hr⟩
  have h := hN.1
  have hR := hN.2
  have hn := iv_n h
  unfold m_X5_thread m_X6_thread
  rw [s_isPlayer, bnd_s, s_isPlayerM, bnd_s]
  cases hp : hC a 6 with
  | false => rw [bf_f, bf_f]; exact ⟨_, _, _, rfl, rfl, ⟨n, hN⟩, hr⟩
  | true =>
    obtain ⟨p, hp2, rfl⟩ := hC_t hp (by decide)
    rw [bf_t, bf_t, s_isWithin, bnd_s, s_in, bnd_s]
    cases hw : wi b 1 9 with
    | false => rw [bf_f, bf_f]; exact ⟨_, _, _, rfl, rfl, ⟨n, hN⟩, hr⟩
    | true =>
      obtain ⟨k, hk, hk2, rfl⟩ := wi_n (b := 1) (c := 9) hw (by decide) (by decide)
      obtain ⟨j, hj, e1⟩ := iv_str h p hp2
      have ep := (rsp1 hR hp2).trans e1
      have e0 := rs_0 hR
      rw [bf_t, bf_t, ib_nI hp2 (by decide), i_pl, ib_nI (by omega) (by decide), gd_t, nm_u, cl_nI (by omega), e1, gd_t, nm_u, nm_u, cl_nI (by omega), ep]
      by_cases hj0 : j = 0
      · subst hj0
        have c1 : ¬ (1 : Int32) ≤ nI 0 := by decide
        have c2 : nI 0 = 0 := rfl
        rw [if_neg c1, if_pos c2]
        exact ⟨_, _, _, rfl, rfl, ⟨n, hN⟩, hr⟩
      · have c1 : (1 : Int32) ≤ nI j := nI_le (a := 1) (by omega) (by omega)
        have c2 : ¬ nI j = 0 := nI_ne0 (by omega) (by omega)
        rw [if_pos c1, if_neg c2, iv_N h, ib0 (by decide) (by decide), gd_t, nm_u, cl0, e0]
        by_cases hlt : n < 30
        · have c3 : nI n < 30 := nI_lt (b := 30) hlt (by decide)
          have c4 : ¬ nI n = 30 := fun e => by
            have := nI_inj (b := 30) (by omega) (by decide) e
            omega
          obtain ⟨M', TM', k1, k2, k3, k4, k5⟩ := s_keep hN hr
          have m1 := kf_1 k5
          obtain ⟨r, T', TM'', f1, f2, f3⟩ := act_fin k4 (a_thread k3.1 k3.2 hlt hp2 (by omega : 1 ≤ j) hj (by rw [m1]; exact e1) hk hk2)
          rw [if_pos c3, if_neg c4, k1, bnd_s, k2, bnd_s, gd_t, nm_u, rs_0 k3.2, s_at0, bnd_s, f1, bnd_s, nm_u, f2]
          exact ⟨_, _, _, rfl, rfl, f3⟩
        · have e : n = 30 := by omega
          subst e
          have c3 : ¬ nI 30 < 30 := by decide
          have c4 : nI 30 = 30 := rfl
          rw [if_neg c3, if_pos c4]
          exact ⟨_, _, _, rfl, rfl, ⟨_, hN⟩, hr⟩
theorem op_give (a b : Int32) : OP (m_X5_give a b) (m_X6_give a b) := by
  intro M TM ⟨⟨n, hN⟩, hr⟩
  have h := hN.1
  have hR := hN.2
  have hn := iv_n h
  unfold m_X5_give m_X6_give
  rw [s_isPlayer, bnd_s, s_isPlayerM, bnd_s]
  cases hp : hC a 6 with
  | false => rw [bf_f, bf_f]; exact ⟨_, _, _, rfl, rfl, ⟨n, hN⟩, hr⟩
  | true =>
    obtain ⟨p, hp2, rfl⟩ := hC_t hp (by decide)
    rw [bf_t, bf_t, s_isWithin, bnd_s, s_in, bnd_s]
    cases hw : wi b 1 9 with
    | false => rw [bf_f, bf_f]; exact ⟨_, _, _, rfl, rfl, ⟨n, hN⟩, hr⟩
    | true =>
      obtain ⟨k, hk, hk2, rfl⟩ := wi_n (b := 1) (c := 9) hw (by decide) (by decide)
      obtain ⟨j, hj, e1⟩ := iv_str h p hp2
      have ep := (rsp1 hR hp2).trans e1
      rw [bf_t, bf_t, ib_nI hp2 (by decide), i_pl, ib_nI (by omega) (by decide), gd_t, nm_u, cl_nI (by omega), e1, gd_t, nm_u, cl_nI (by omega), ep, nI_add]
      by_cases hs : j + k ≤ 20
      · have c1 : nI (j + k) ≤ 20 := nI_le (b := 20) hs (by decide)
        obtain ⟨M', TM', k1, k2, k3, k4, k5⟩ := s_keep hN hr
        have m1 := kf_1 k5
        have e1' : M' 1 1 p = nI j := by rw [m1]; exact e1
        have ep' := (rsp1 k3.2 hp2).trans e1'
        have i1 : Iv (wT (M' 1) 1 p (nI (j + k))) n := by
          refine iv_ch k3.1 ?_ ?_ ?_ ?_ ?_ ?_ ?_
          · simp (disch := omega) only [wT_n]
          · intro q hq
            by_cases hpq : q = p
            · subst hpq
              exact ⟨j + k, hs, by simp (disch := omega) only [wT_ss]⟩
            · obtain ⟨j2, a1, a2⟩ := iv_str k3.1 q hq
              exact ⟨j2, a1, by simp (disch := omega) only [wT_sn]; exact a2⟩
          · intro c hc; simp (disch := omega) only [wT_n]
          · intro c hc; simp (disch := omega) only [wT_n]
          · intro c hc; simp (disch := omega) only [wT_n]
          · intro c hc hne
            simp (disch := omega) only [wT_n]
            exact iv_by2 k3.1 c hc hne
          · exact iv_vv k3.1 (fun c hc => by simp (disch := omega) only [wT_n]) (by simp (disch := omega) only [wT_n])
        obtain ⟨r, T', TM'', f1, f2, f3⟩ := act_fin (n' := n) (C := some (nI (j + k), wT (M' 1) 1 p (nI (j + k)))) (R := some (nI (j + k), sS TM' (upd (TM' 1) (4 + 2 * p) (nI (j + k))))) k4 ⟨_, _, _, rfl, rfl, i1, rs_w1 hn k3.2 hp2 _, fun x hx => up_n _ _ (by omega)⟩
        cases f1
        cases f2
        rw [if_pos c1, if_pos c1, k1, bnd_s, k2, bnd_s]
        simp only [gd_t]
        rw [nm_u, nm_u, nm_u, nm_u, e1', ep', nI_add, nm_u, nm_u, wM_at, up_s, sS_w0, sS_1, up_s]
        exact ⟨_, _, _, rfl, rfl, f3⟩
      · have c1 : ¬ nI (j + k) ≤ 20 := nI_ge (a := 20) (by omega) (by omega)
        rw [if_neg c1, if_neg c1]
        exact ⟨_, _, _, rfl, rfl, ⟨n, hN⟩, hr⟩
theorem op_strike (a b c : Int32) : OP (m_X5_strike a b c) (m_X6_strike a b c) := by
  intro M TM ⟨⟨n, hN⟩, hr⟩
  have h := hN.1
  have hR := hN.2
  have hn := iv_n h
  unfold m_X5_strike m_X6_strike
  rw [s_strikeError h, bnd_s, nm_u, uM_self, s_strikeErrorM hn hR, bnd_s]
  by_cases h0 : pE (M 1) n a b (wi c 1 9) = 0
  · obtain ⟨i, j, hi, hj, rfl, rfl, _, hij, _, h9i, h9j⟩ := pE_0 hn h0
    obtain ⟨M', TM', k1, k2, k3, k4, k5⟩ := s_keep hN hr
    have m1 := kf_1 k5
    obtain ⟨r, T', TM'', f1, f2, f3⟩ := act_fin k4 (a_hit k3.1 k3.2 hi hj hij (by rw [m1]; exact h9i) (by rw [m1]; exact h9j) c)
    rw [if_pos h0, if_pos h0, k1, bnd_s, k2, bnd_s, f1, bnd_s, nm_u, f2, bnd_s]
    exact ⟨_, _, _, rfl, rfl, f3⟩
  · rw [if_neg h0, if_neg h0]
    exact ⟨_, _, _, rfl, rfl, ⟨n, hN⟩, hr⟩
theorem op_mend (a : Int32) : OP (m_X5_mend a) (m_X6_mend a) := by
  intro M TM ⟨⟨n, hN⟩, hr⟩
  have h := hN.1
  have hR := hN.2
  have hn := iv_n h
  unfold m_X5_mend m_X6_mend
  rw [s_mendError h, bnd_s, nm_u, uM_self, s_mendErrorM h hR, bnd_s]
  by_cases h0 : mE (M 1) n a = 0
  · obtain ⟨M', TM', k1, k2, k3, k4, k5⟩ := s_keep hN hr
    have m1 := kf_1 k5
    obtain ⟨r, T', TM'', f1, f2, f3⟩ := act_fin k4 (a_mend k3.1 k3.2 (a := a) (by rw [m1]; exact h0))
    rw [if_pos h0, if_pos h0, k1, bnd_s, k2, bnd_s, f1, bnd_s, nm_u, f2, bnd_s]
    exact ⟨_, _, _, rfl, rfl, f3⟩
  · rw [if_neg h0, if_neg h0]
    exact ⟨_, _, _, rfl, rfl, ⟨n, hN⟩, hr⟩
theorem op_stamp (a : Int32) : OP (m_X5_stamp a) (m_X6_stamp a) := by
  intro M TM ⟨⟨n, hN⟩, hr⟩
  have h := hN.1
  have hR := hN.2
  have hn := iv_n h
  unfold m_X5_stamp m_X6_stamp
  rw [s_fallenError h, bnd_s, nm_u, uM_self, s_stampErrorM hn hR, bnd_s]
  by_cases h0 : fE (M 1) n a = 0
  · obtain ⟨M', TM', k1, k2, k3, k4, k5⟩ := s_keep hN hr
    have m1 := kf_1 k5
    obtain ⟨r, T', TM'', f1, f2, f3⟩ := act_fin k4 (a_stamp k3.1 k3.2 (a := a) (by rw [m1]; exact h0))
    rw [if_pos h0, if_pos h0, k1, bnd_s, k2, bnd_s, f1, bnd_s, nm_u, f2, bnd_s]
    exact ⟨_, _, _, rfl, rfl, f3⟩
  · rw [if_neg h0, if_neg h0]
    exact ⟨_, _, _, rfl, rfl, ⟨n, hN⟩, hr⟩
theorem op_boast (a b : Int32) : OP (m_X5_boast a b) (m_X6_boast a b) := by
  intro M TM ⟨⟨n, hN⟩, hr⟩
  have h := hN.1
  have hR := hN.2
  have hn := iv_n h
  unfold m_X5_boast m_X6_boast
  rw [s_hasConker h, bnd_s, nm_u, uM_self, s_isConker hn hR, bnd_s]
  cases hp : hC a n with
  | false => rw [bf_f, bf_f]; exact ⟨_, _, _, rfl, rfl, ⟨n, hN⟩, hr⟩
  | true =>
    obtain ⟨i, hi, rfl⟩ := hC_t hp (by omega)
    rw [bf_t, bf_t, s_isWithin, bnd_s, s_in, bnd_s]
    cases hw : wi b 0 99 with
    | false => rw [bf_f, bf_f]; exact ⟨_, _, _, rfl, rfl, ⟨n, hN⟩, hr⟩
    | true =>
      have e6 := rs_f6 hR i hi
      rw [bf_t, bf_t, s_at0, bnd_s]
      simp only [nI_p6, nI_p5]
      rw [ib_nI (by omega) (by decide), ib_nI (by omega) (by decide), ib_nI (by omega) (by decide), gd_t, nm_u, cl_nI (by omega), gd_t, nm_u, cl_nI (by omega), e6]
      by_cases h2 : M 1 9 i = 2
      · rw [if_pos h2, if_pos h2]
        exact ⟨_, _, _, rfl, rfl, ⟨n, hN⟩, hr⟩
      · obtain ⟨M', TM', k1, k2, k3, k4, k5⟩ := s_keep hN hr
        have e5 := rs_f5 k3.2 i hi
        obtain ⟨r, T', TM'', f1, f2, f3⟩ := act_fin (n' := n) (C := some (M' 1 8 i, wT (M' 1) 8 i b)) (R := some (M' 1 8 i, sS TM' (upd (TM' 1) (16 + 8 * i + 5) b))) k4 ⟨_, _, _, rfl, rfl, iv_8 k3.1 _ _, rs_wf hn k3.2 hi (f := 5) (by decide) b, fun x hx => up_n _ _ (by omega)⟩
        cases f1
        cases f2
        rw [if_neg h2, if_neg h2, k1, bnd_s, k2, bnd_s]
        simp only [gd_t]
        rw [nm_u, nm_u, nm_u, cl_nI (by omega), nm_u, e5, sS_w0]
        exact ⟨_, _, _, rfl, rfl, f3⟩
theorem op_doubt (a b : Int32) : OP (m_X5_doubt a b) (m_X6_doubt a b) := by
  intro M TM ⟨⟨n, hN⟩, hr⟩
  have h := hN.1
  have hR := hN.2
  have hn := iv_n h
  unfold m_X5_doubt m_X6_doubt
  rw [s_isPlayer, bnd_s, s_isPlayerM, bnd_s]
  cases hp : hC a 6 with
  | false => rw [bf_f, bf_f]; exact ⟨_, _, _, rfl, rfl, ⟨n, hN⟩, hr⟩
  | true =>
    obtain ⟨p, hp2, rfl⟩ := hC_t hp (by decide)
    rw [bf_t, bf_t, s_hasConker h, bnd_s, nm_u, uM_self, s_isConker hn hR, bnd_s]
    cases hc : hC b n with
    | false => rw [bf_f, bf_f]; exact ⟨_, _, _, rfl, rfl, ⟨n, hN⟩, hr⟩
    | true =>
      obtain ⟨i, hi, rfl⟩ := hC_t hc (by omega)
      have e0 := rs_f0 hR i hi
      have e5 := rs_f5 hR i hi
      rw [bf_t, bf_t, s_at0, bnd_s, ib_nI (show i < 30 by omega) (by decide), ib_nI (show 16 + 8 * i < 2048 by omega) (by decide), gd_t, nm_u, cl_nI (show i < 2 ^ 31 by omega), gd_t, nm_u, gd_t, nm_u, cl_nI (show 16 + 8 * i < 2 ^ 31 by omega), e0]
      by_cases h3 : M 1 3 i = nI p
      · rw [if_pos h3, if_pos h3]
        exact ⟨_, _, _, rfl, rfl, ⟨n, hN⟩, hr⟩
      · rw [if_neg h3, if_neg h3, nI_p5, ib_nI (show 16 + 8 * i + 5 < 2048 by omega) (by decide), gd_t, nm_u, cl_nI (show 16 + 8 * i + 5 < 2 ^ 31 by omega), e5]
        by_cases h5 : M 1 8 i = (-5)
        · rw [if_pos h5, if_pos h5]
          exact ⟨_, _, _, rfl, rfl, ⟨n, hN⟩, hr⟩
        · obtain ⟨M', TM', k1, k2, k3, k4, k5⟩ := s_keep hN hr
          have A := a_doubt k3.1 k3.2 hi hp2
          rw [nI_p5, ib_nI (show 16 + 8 * i + 5 < 2048 by omega) (by decide), ib_nI (show 16 + 8 * i < 2048 by omega) (by decide), cl_nI (show 16 + 8 * i + 5 < 2 ^ 31 by omega), cl_nI (show 16 + 8 * i < 2 ^ 31 by omega)] at A
          obtain ⟨r, T', TM'', f1, f2, f3⟩ := act_fin k4 A
          rw [if_neg h5, if_neg h5, k1, bnd_s, k2, bnd_s, f1, bnd_s, nm_u, f2]
          exact ⟨_, _, _, rfl, rfl, f3⟩
theorem fk_rst {k o : Nat} {M' : Mm} {TM' : Tm} (hk : (k = 1 ∧ o = 0) ∨ (k = 3 ∧ o = 1792)) (h : FK k o M M' TM TM') (hr : Rst M TM) : Rst M' TM' := by
  obtain ⟨g1, g2, g3, g4, g5, g6⟩ := h
  refine rst_fr ⟨g1 12 (by omega) (by decide), by rw [g1 0 (by omega) (by decide)], g1 2 (by omega) (by decide), fun q h1 h2 => g1 q (by omega) (by omega), by rw [g1 9 (by omega) (by decide)], fun j => by rw [g1 9 (by omega) (by decide)]⟩ ⟨g5 1 (by decide), g5 2 (by decide), g5 4 (by decide), fun j => by rw [g4 2 (by decide) (by decide)], fun x h1 h2 => g6 x (by omega)⟩ hr
theorem fr_x (x : Int32) : FrT TM (wT TM 0 5 x) := ⟨wT_sn _ _ _ (by decide), wT_sn _ _ _ (by decide), wT_sn _ _ _ (by decide), fun j => by rw [wT_ne _ _ _ (by decide)], fun y _ _ => by rw [wT_ne _ _ _ (by decide)]⟩
theorem op_bout (a b c : Int32) : OP (m_X5_bout a b c) (m_X6_bout a b c) := by
  intro M TM ⟨⟨n, hN⟩, hr⟩
  have h := hN.1
  have hR := hN.2
  have hn := iv_n h
  unfold m_X5_bout m_X6_bout
  rw [s_boutError h, bnd_s, nm_u, uM_self, s_boutErrorM hn hR, bnd_s]
  by_cases h0 : pE (M 1) n a b (wi c 0 65535) = 0
  · obtain ⟨i, j, hi, hj, rfl, rfl, _, hij, _, h9i, h9j⟩ := pE_0 hn h0
    obtain ⟨M', TM', k1, k2, k3, k4, k5⟩ := s_keep hN hr
    have m1 := kf_1 k5
    have e1 : (uM M' 10 (wT (M' 10) 0 0 c)) 1 = M' 1 := uM_ne _ _ _ (by decide)
    obtain ⟨r, M'', TM'', f1, f2, f3, f4, f5, f6, f7⟩ := s_fight (k := 1) (o := 0) (n := n) (M := uM M' 10 (wT (M' 10) 0 0 c)) (TM := wT TM' 0 5 c) (by decide) (by decide) (by rw [e1]; exact k3.1) (by rw [e1, wT_ne _ _ _ (by decide)]; exact k3.2) (by rw [uM_same, wT_ss, wT_ss]) hi hj hij (by rw [e1, m1]; exact J2_play h h9i h9j)
    rw [if_pos h0, if_pos h0, k1, bnd_s, k2, bnd_s]
    unfold m_X0_begin
    rw [nm_u, bnd_s, nm_u, nm_u]
    have z : (0 : Int32) = nI 0 := rfl
    rw [f1, bnd_s]
    rw [z, f2, bnd_s]
    exact ⟨_, _, _, rfl, rfl, ⟨n, f4, f5⟩, fk_rst (Or.inl ⟨rfl, rfl⟩) f6 (rst_fr (frM_u (by omega)) (fr_x c) k4)⟩
  · rw [if_neg h0, if_neg h0]
    exact ⟨_, _, _, rfl, rfl, ⟨n, hN⟩, hr⟩
end OPS
