/-! A ROUND: its bouts -/
section ROUND2
variable {M : Mm} {TM : Tm} {n : Nat}
theorem s_takeOut_l {len idx : Nat} (hl : len ≤ 6) (hi : idx < len) (v : Int32) (T0 : Tm) : ∀ (m j : Nat) (T : Tm), idx + 1 ≤ j → j ≤ len → len - j < m → T 0 1 = nI len → (∀ q, q < idx → T 1 q = T0 1 q) → (∀ q, idx ≤ q → q + 1 < j → T 1 q = T0 1 (q + 1)) → (∀ q, j - 1 ≤ q → T 1 q = T0 1 q) →
    ∃ T' : Tm, m_X2_takeOut_11 m v (nI j) T = some (v, T') ∧ T' 0 1 = nI (len - 1) ∧ (∀ q, q < idx → T' 1 q = T0 1 q) ∧ ∀ q, idx ≤ q → q + 1 < len → T' 1 q = T0 1 (q + 1) := by
  intro m
  induction m with
  | zero => intro j T _ _ h; omega
  | succ m ih =>
    intro j T h1 h2 hm e1 g1 g2 g3
    rw [m_X2_takeOut_11.eq_2]
    simp only [nm_u]
    rw [e1]
    by_cases hj : j = len
    · subst hj
      rw [if_pos (nI_le (Nat.le_refl _) (by omega)), nI_m1 (by omega)]
      refine ⟨_, rfl, wT_ss _ _ _ _, fun q hq => ?_, fun q h3 h4 => ?_⟩
      · rw [wT_n _ _ _ _ (by decide)]; exact g1 q hq
      · rw [wT_n _ _ _ _ (by decide)]; exact g2 q h3 h4
    · rw [if_neg (nI_ge (by omega) (by omega)), ib_nI (show j < 6 by omega) (by decide), nI_m1 (by omega), ib_nI (show j - 1 < 6 by omega) (by decide), gd_t, gd_t, cl_nI (by omega), cl_nI (by omega), g3 j (by omega), nI_p1]
      refine ih (j + 1) (wT T 1 (j - 1) (T0 1 j)) (by omega) (by omega) (by omega) ?_ (fun q hq => ?_) (fun q h3 h4 => ?_) (fun q hq => ?_)
      · rw [wT_n _ _ _ _ (by decide)]; exact e1
      · rw [wT_sn _ _ _ (by omega)]; exact g1 q hq
      · by_cases hq : q = j - 1
        · subst hq
          have e : j - 1 + 1 = j := by omega
          rw [wT_ss, e]
        · rw [wT_sn _ _ _ hq]
          exact g2 q h3 (by omega)
      · rw [wT_sn _ _ _ (by omega)]
        exact g3 q (by omega)
theorem s_takeOut {len idx : Nat} (hl : len ≤ 6) (hi : idx < len) {T : Tm} (e1 : T 0 1 = nI len) : ∃ T' : Tm, m_X2_takeOut (nI idx) T = some (T 1 idx, T') ∧ T' 0 1 = nI (len - 1) ∧ (∀ q, q < idx → T' 1 q = T 1 q) ∧ ∀ q, idx ≤ q → q + 1 < len → T' 1 q = T 1 (q + 1) := by
  unfold m_X2_takeOut
  rw [ib_nI (show idx < 6 by omega) (by decide), gd_t, nm_u, cl_nI (by omega), nI_p1]
  exact s_takeOut_l hl hi (T 1 idx) T fu (idx + 1) T (Nat.le_refl _) (by omega) (by unfold fu; omega) e1 (fun _ _ => rfl) (fun q h1 h2 => by omega) (fun _ _ => rfl)
theorem s_83_l (κ : Int32 → Int32 → Tm → Option (Int32 × Tm)) {len k : Nat} (hl : len ≤ 6) (hk1 : 1 ≤ k) (hk : k < len) (b2 b5 b6 : Int32) (T0 : Tm) : ∀ (m j b7 : Nat) (T : Tm), 1 ≤ j → j ≤ len → len - j < m → b7 = (if j ≤ k then j - 1 else j - 2) → (∀ q, q < b7 → T 3 q = if q + 1 < k then T0 3 (q + 1) else T0 3 (q + 2)) → (∀ q, b7 ≤ q → T 3 q = T0 3 q) → (∀ a, a ≠ 3 → T a = T0 a) →
    ∃ T' : Tm, m_X6_round_83 κ m b2 (nI len) (nI k) b5 b6 (nI b7) (nI j) T = (bnd (m_X6_fights 0 b5 b6 T') fun r2 T3 => κ (b2 + 1) (nI (len - 2)) T3) ∧ (∀ q, q < len - 2 → T' 3 q = if q + 1 < k then T0 3 (q + 1) else T0 3 (q + 2)) ∧ ∀ a, a ≠ 3 → T' a = T0 a := by
  intro m
  induction m with
  | zero => intro j b7 T _ _ h; omega
  | succ m ih =>
    intro j b7 T h1 h2 hm hb g1 g2 g3
    rw [m_X6_round_83.eq_2]
    by_cases hj : j = len
    · subst hj
      rw [if_pos (nI_le (Nat.le_refl _) (by omega))]
      have e7 : b7 = j - 2 := by rw [hb, if_neg (by omega)]
      subst e7
      exact ⟨T, rfl, g1, g3⟩
    · rw [if_neg (nI_ge (by omega) (by omega))]
      unfold m_X6_round_113
      by_cases hjk : j = k
      · subst hjk
        rw [if_pos rfl, nI_p1]
        refine ih (j + 1) b7 T (by omega) (by omega) (by omega) ?_ g1 g2 g3
        rw [hb, if_pos (Nat.le_refl _), if_neg (by omega)]
        omega
      · have b6lt : b7 < 6 ∧ b7 < j := by
          rw [hb]
          split <;> omega
        rw [if_neg (fun e => hjk (nI_inj (by omega) (by omega) e)), ib_nI (show j < 6 by omega) (by decide), gd_t, nm_u, cl_nI (by omega), ib_nI b6lt.1 (by decide), gd_t, nm_u, cl_nI (by omega), g2 j (by omega), nI_p1, nI_p1]
        refine ih (j + 1) (b7 + 1) _ (by omega) (by omega) (by omega) ?_ (fun q hq => ?_) (fun q hq => ?_) (fun a ha => ?_)
        · rw [hb]
          by_cases h3 : j ≤ k
          · rw [if_pos h3, if_pos (by omega)]; omega
          · rw [if_neg h3, if_neg (by omega)]; omega
        · by_cases hq2 : q = b7
          · subst hq2
            rw [wT_ss]
            by_cases h3 : j ≤ k
            · rw [if_pos h3] at hb
              have e : q + 1 = j := by omega
              rw [if_pos (by omega), e]
            · rw [if_neg h3] at hb
              have e : q + 2 = j := by omega
              rw [if_neg (by omega), e]
          · rw [wT_sn _ _ _ hq2]
            exact g1 q (by omega)
        · rw [wT_sn _ _ _ (by omega)]
          exact g2 q (by omega)
        · rw [wT_ne _ _ _ ha]
          exact g3 a ha
theorem s_round_l : ∀ (m j len : Nat) (M : Mm) (TM : Tm), len + 2 * j ≤ 6 → 6 - j < m → Now M TM n → Rst M TM → ROW M TM n 6 len → M 10 0 0 = TM 0 5 → XR (TM 0 5) →
    ∃ (r : Int32) (M' : Mm) (TM' : Tm), m_X5_round_45 m (nI j) M = some (r, M') ∧ m_X6_round_29 m (nI j) (nI len) TM = some (r, TM') ∧ Rel M' TM' := by
  intro m
  induction m with
  | zero => intro j len M TM _ h; omega
  | succ m ih =>
    intro j len M TM hj hm hN hr hW hx hX
    have hn := iv_n hN.1
    have c6 : ¬ (6 : Int32) ≤ nI j := nI_ge (b := 6) (by omega) (by decide)
    rw [m_X5_round_45.eq_2, m_X6_round_29.eq_2, if_neg c6]
    unfold m_X5_round_120
    simp only [nm_u]
    rw [hW.1]
    by_cases h2 : len < 2
    · have c1 : nI len < 2 := nI_lt (b := 2) h2 (by decide)
      have c2 : nI len ≤ 1 := nI_le (b := 1) (by omega) (by decide)
      rw [if_pos c1, if_pos c2]
      exact ⟨_, _, _, rfl, rfl, ⟨n, hN⟩, hr⟩
    · have c1 : ¬ nI len < 2 := nlt (b := 2) (by omega) (by omega)
      have c2 : ¬ nI len ≤ 1 := nI_ge (a := 1) (by omega) (by omega)
      have hX' := nx_XR hX
      obtain ⟨x, hx2, ex⟩ := hX'
      have hmod := Nat.mod_lt x (show 0 < len - 1 by omega)
      have hk1 : 1 ≤ 1 + x % (len - 1) := by omega
      have hk : 1 + x % (len - 1) < len := by omega
      have e11 : ∀ X, (uM M 10 X) 11 = M 11 := fun X => uM_ne _ _ _ (by decide)
      have g0 : (!decide (nI (len - 1) = 0)) = true := by
        have : ¬ nI (len - 1) = 0 := nI_ne0 (by omega) (by omega)
        simp [this]
      have ek : (1 : Int32) + (nI x - nI x / nI (len - 1) * nI (len - 1)) = nI (1 + x % (len - 1)) := by
        rw [pk_rem (by omega) (by omega) (by omega), show (1 : Int32) = nI 1 from rfl, nI_add]
      generalize hkk : 1 + x % (len - 1) = k at hk1 hk ek
      obtain ⟨a1, a2, a3⟩ := hW
      obtain ⟨c0, p0, x1, x2, x3, x4, x5, x6⟩ := a2 0 (by omega)
      obtain ⟨ck, pk, y1, y2, y3, y4, y5, y6⟩ := a2 k hk
      have hne : c0 ≠ ck := fun e => by
        have := a3 0 k (by omega) hk (by omega)
        rw [x2, y2] at this
        rw [e, y6] at x6
        exact this x6.symm
      obtain ⟨T1, f1, f2, f3, f4⟩ := s_takeOut (T := M 11) (by omega) hk a1
      obtain ⟨T2, d1, d2, d3, d4⟩ := s_takeOut (T := T1) (len := len - 1) (idx := 0) (by omega) (by omega) f2
      have e2 : ∀ q, q < len - 2 → T2 1 q = if q + 1 < k then M 11 1 (q + 1) else M 11 1 (q + 2) := fun q hq => by
        rw [d4 q (by omega) (by omega)]
        by_cases h3 : q + 1 < k
        · rw [if_pos h3]; exact f3 _ h3
        · rw [if_neg h3]; exact f4 _ (by omega) (by omega)
      have z0 : nI 0 = 0 := rfl
      have t3 : ∀ v, (wT TM 0 5 v) 3 = TM 3 := fun v => wT_ne _ _ _ (by decide)
      have t4 : ∀ v, (wT TM 0 5 v) 4 = TM 4 := fun v => wT_ne _ _ _ (by decide)
      obtain ⟨TK, k1, k2, k3⟩ := s_83_l (m_X6_round_29 m) (len := len) (k := k) (by omega) hk1 hk (nI j) (nI c0) (nI ck) (wT TM 0 5 (nI x)) fu 1 0 (wT TM 0 5 (nI x)) (by decide) (by omega) (by unfold fu; omega) (by rw [if_pos hk1]) (fun q hq => by omega) (fun _ _ => rfl) (fun _ _ => rfl)
      have r1 : T1 1 0 = nI c0 := by rw [f3 0 (by omega)]; exact x1
      have hR1 : ∀ X Y, (uM (uM M 10 X) 11 Y) 1 = M 1 := fun X Y => by rw [uM_ne _ _ _ (by decide), uM_ne _ _ _ (by decide)]
      have kt1 : TK 1 = TM 1 := by rw [k3 1 (by decide), wT_ne _ _ _ (by decide)]
      obtain ⟨r, M', TM', w1, w2, w3, w4, w5, w6, _⟩ := s_fight0 (k := 1) (o := 0) (n := n) (M := uM (uM M 10 (wT (M 10) 0 0 (nI x))) 11 T2) (TM := TK) (by decide) (by decide) (by rw [hR1]; exact hN.1) (by rw [hR1, kt1]; exact hN.2) (by rw [uM_ne _ _ _ (by decide), uM_same, wT_ss, k3 0 (by decide), wT_ss]) x5 y5 hne
      have hM3 : M' 1 3 = M 1 3 := by rw [w6.2.1, hR1]
      have hT3 : TM' 3 = TK 3 := w6.2.2.2.1 3 (by decide) (by decide)
      have hT4 : TM' 4 = TM 4 := by rw [w6.2.2.2.1 4 (by decide) (by decide), k3 4 (by decide), t4]
      have hM11 : M' 11 = T2 := by rw [w6.1 11 (by decide) (by decide), uM_same]
      have hT3q : ∀ q, q < len - 2 → TM' 3 q = if q + 1 < k then TM 3 (q + 1) else TM 3 (q + 2) := fun q hq => by
        rw [hT3, k2 q hq, t3]
      have hW' : ROW M' TM' n 6 (len - 2) := by
        refine ⟨?_, fun q hq => ?_, fun q s hq hs hqs => ?_⟩
        · rw [hM11, d2]
          have e : len - 1 - 1 = len - 2 := by omega
          rw [e]
        · rw [hM11, e2 q hq, hT3q q hq]
          by_cases h3 : q + 1 < k
          · rw [if_pos h3, if_pos h3]
            exact en_m hM3 (fun p _ => by rw [hT4]) (Nat.le_refl _) (a2 (q + 1) (by omega))
          · rw [if_neg h3, if_neg h3]
            exact en_m hM3 (fun p _ => by rw [hT4]) (Nat.le_refl _) (a2 (q + 2) (by omega))
        · rw [hT3q q hq, hT3q s hs]
          by_cases h3 : q + 1 < k
          · rw [if_pos h3]
            by_cases h4 : s + 1 < k
            · rw [if_pos h4]; exact a3 _ _ (by omega) (by omega) (by omega)
            · rw [if_neg h4]; exact a3 _ _ (by omega) (by omega) (by omega)
          · rw [if_neg h3]
            by_cases h4 : s + 1 < k
            · rw [if_pos h4]; exact a3 _ _ (by omega) (by omega) (by omega)
            · rw [if_neg h4]; exact a3 _ _ (by omega) (by omega) (by omega)
      have hr' : Rst M' TM' := fk_rst (Or.inl ⟨rfl, rfl⟩) w6 (rst_fr (frM_tr (frM_u (k := 10) (by omega)) (frM_u (k := 11) (by omega))) ⟨by rw [k3 0 (by decide), wT_sn _ _ _ (by decide)], by rw [k3 0 (by decide), wT_sn _ _ _ (by decide)], by rw [k3 0 (by decide), wT_sn _ _ _ (by decide)], fun j => by rw [k3 2 (by decide), wT_ne _ _ _ (by decide)], fun y _ _ => by rw [kt1]⟩ hr)
      have hX2 : XR (TM' 0 5) := w6.2.2.1.2 XR (fun y => nx_XR) (by rw [k3 0 (by decide), wT_ss]; exact ⟨x, hx2, rfl⟩)
      rw [if_neg c1, if_neg c2, s_next, bnd_s, hx, ex, e11, a1, nI_m1 (by omega), g0, gd_t, ek, f1, bnd_s, y1]
      rw [uM_same, ← z0, d1, bnd_s, uM_uM, r1, w1, bnd_s, nI_p1]
      rw [s_goesOn, bnd_s, ex, wT_ss, ek, gd_t, ib_nI (show 0 < 6 by decide) (by decide), gd_t, t3, t4, z0, cl0, x2, ib_nI x3 (by decide), gd_t, cl_nI (show p0 < 2 ^ 31 by omega), x4, ib_nI (show k < 6 by omega) (by decide), gd_t, cl_nI (show k < 2 ^ 31 by omega), y2, ib_nI y3 (by decide), gd_t, cl_nI (show pk < 2 ^ 31 by omega), y4]
      have o1 : nI 1 = 1 := rfl
      rw [z0, o1] at k1
      rw [z0] at w2
      rw [k1, w2, bnd_s, nI_p1]
      exact ih (j + 1) (len - 2) M' TM' (by omega) (by omega) ⟨w4, w5⟩ hr' hW' w6.2.2.1.1 hX2
theorem op_round (a : Int32) : OP (m_X5_round a) (m_X6_round a) := by
  intro M TM ⟨⟨n, hN⟩, hr⟩
  unfold m_X5_round m_X6_round
  rw [s_isWithin, bnd_s, s_in, bnd_s]
  cases hw : wi a 0 65535 with
  | false => rw [bf_f, bf_f]; exact ⟨_, _, _, rfl, rfl, ⟨n, hN⟩, hr⟩
  | true =>
    obtain ⟨x, _, h2, rfl⟩ := wi_n (b := 0) (c := 65535) hw (by decide) (by decide)
    obtain ⟨M', TM', k1, k2, k3, k4, k5⟩ := s_keep hN hr
    have u1 : (uM M' 10 (wT (M' 10) 0 0 (nI x))) 1 = M' 1 := uM_ne _ _ _ (by decide)
    have t1 : (wT TM' 0 5 (nI x)) 1 = TM' 1 := wT_ne _ _ _ (by decide)
    obtain ⟨len, M2, TM2, f1, f2, f3, f4, f5, f6⟩ := s_lineUp (n := n) (M := uM M' 10 (wT (M' 10) 0 0 (nI x))) (TM := wT TM' 0 5 (nI x)) (by rw [u1]; exact k3.1) (by rw [u1, t1]; exact k3.2)
    have e1 : M2 1 = M' 1 := (f5 1 (by decide)).trans u1
    have e2 : TM2 1 = TM' 1 := (f6 1 (by decide) (by decide)).trans t1
    have e5 : TM2 0 5 = nI x := by rw [f6 0 (by decide) (by decide), wT_ss]
    have hN2 : Now M2 TM2 n := ⟨by rw [e1]; exact k3.1, by rw [e1, e2]; exact k3.2⟩
    have hr2 : Rst M2 TM2 := rst_fr (frM_tr (frM_u (k := 10) (by omega)) ⟨f5 12 (by decide), by rw [f5 0 (by decide)], f5 2 (by decide), fun q h1 h2 => f5 q (by omega), by rw [f5 9 (by decide)], fun j => by rw [f5 9 (by decide)]⟩) (frT_tr (fr_x (nI x)) ⟨by rw [f6 0 (by decide) (by decide)], by rw [f6 0 (by decide) (by decide)], by rw [f6 0 (by decide) (by decide)], fun j => by rw [f6 2 (by decide) (by decide)], fun y _ _ => by rw [f6 1 (by decide) (by decide)]⟩) k4
    rw [bf_t, bf_t, k1, bnd_s, k2, bnd_s]
    unfold m_X0_begin
    rw [nm_u, bnd_s, nm_u, nm_u, f1, bnd_s, f2, bnd_s]
    have z0 : (0 : Int32) = nI 0 := rfl
    rw [z0]
    exact s_round_l fu 0 len M2 TM2 (by omega) (by unfold fu; omega) hN2 hr2 f4 (by rw [e5, f5 10 (by decide), uM_same, wT_ss]) (by rw [e5]; exact ⟨x, by omega, rfl⟩)
end ROUND2
