/-! A ROUND: the row of both sides -/
section ROUND
variable {M : Mm} {TM : Tm} {n : Nat}
def XR (y : Int32) : Prop := ∃ x, x < 65536 ∧ y = nI x
theorem nx_XR {y : Int32} (h : XR y) : XR (nx y) := by
  obtain ⟨x, hx, rfl⟩ := h
  refine ⟨(25173 * x + 13849) % 65536, Nat.mod_lt _ (by decide), ?_⟩
  unfold nx
  rw [show (25173 : Int32) = nI 25173 from rfl, show (13849 : Int32) = nI 13849 from rfl, show (65536 : Int32) = nI 65536 from rfl, pk_mul, nI_add]
  exact pk_rem (by omega) (by decide) (by decide)
/-- an entry of both rows -/
def EN (M : Mm) (TM : Tm) (n pl : Nat) (x y : Int32) : Prop := ∃ c p, x = nI c ∧ y = nI p ∧ p < pl ∧ TM 4 p = nI c ∧ c < n ∧ M 1 3 c = nI p
def ROW (M : Mm) (TM : Tm) (n pl len : Nat) : Prop := M 11 0 1 = nI len ∧ (∀ q, q < len → EN M TM n pl (M 11 1 q) (TM 3 q)) ∧ ∀ q r, q < len → r < len → q ≠ r → TM 3 q ≠ TM 3 r
def HOL (M : Mm) (TM : Tm) (n pl len k : Nat) : Prop := M 11 0 1 = nI len ∧ (∀ q, q ≤ len → q ≠ k → EN M TM n pl (M 11 1 q) (TM 3 q)) ∧ ∀ q r, q ≤ len → r ≤ len → q ≠ k → r ≠ k → q ≠ r → TM 3 q ≠ TM 3 r
theorem en_m {M' : Mm} {TM' : Tm} {pl pl' : Nat} {x y : Int32} (h1 : M' 1 3 = M 1 3) (h2 : ∀ p, p < pl → TM' 4 p = TM 4 p) (h3 : pl ≤ pl') (h : EN M TM n pl x y) : EN M' TM' n pl' x y := by
  obtain ⟨c, p, a, b, d, e, f, g⟩ := h
  exact ⟨c, p, a, b, by omega, (h2 p d).trans e, f, by rw [h1]; exact g⟩
theorem s_ins_f (κ : Int32 → Int32 → Tm → Option (Int32 × Tm)) {c p len k : Nat} (hp : p < 6) (hc : c < n) (hk : k ≤ len) (hl : len < 6) (h3 : M 1 3 c = nI p) (h4 : TM 4 p = nI c) (hH : HOL M TM n p len k) :
    ∃ (X : Tm) (TM' : Tm), m_X2_insert_68 (nI c) (nI k) M = some (0, uM M 11 X) ∧ m_X6_lines_92 κ (nI len) (nI p) (nI k) TM = m_X6_lines_102 κ (nI (len + 1)) (nI p) TM' ∧ (∀ q, q ≠ 3 → TM' q = TM q) ∧ ROW (uM M 11 X) TM' n (p + 1) (len + 1) := by
  obtain ⟨a1, a2, a3⟩ := hH
  have u1 : ∀ X, (uM M 11 X) 1 3 = M 1 3 := fun X => by rw [uM_ne _ _ _ (by decide)]
  refine ⟨wT (wT (M 11) 1 k (nI c)) 0 1 (nI (len + 1)), wT TM 3 k (nI p), ?_, ?_, fun q hq => wT_ne _ _ _ hq, ?_, fun q hq => ?_, fun q r hq hr hqr => ?_⟩
  · unfold m_X2_insert_68
    rw [ib_nI (by omega) (by decide), gd_t, cl_nI (by omega)]
    simp only [nm_u]
    have e : wM M 11 1 k (nI c) 11 0 1 = nI len := by rw [wM_off _ _ _ _ _ _ _ (by decide)]; exact a1
    rw [e, nI_p1]
    unfold wM
    rw [uM_same, uM_uM]
  · unfold m_X6_lines_92
    rw [ib_nI (by omega) (by decide), gd_t, cl_nI (by omega), nm_u, nI_p1]
  · rw [uM_same, wT_ss]
  · rw [uM_same]
    by_cases hqk : q = k
    · subst hqk
      rw [wT_n _ _ _ _ (by decide), wT_ss, wT_ss]
      refine ⟨c, p, rfl, rfl, by omega, ?_, hc, ?_⟩
      · rw [wT_n _ _ _ _ (by decide)]; exact h4
      · rw [u1]; exact h3
    · rw [wT_n _ _ _ _ (by decide), wT_sn _ _ _ hqk, wT_sn _ _ _ hqk]
      exact en_m (u1 _) (fun p _ => wT_n _ _ _ _ (by decide)) (by omega) (a2 q (by omega) hqk)
  · have ne : ∀ r, r ≤ len → r ≠ k → nI p ≠ TM 3 r := fun r hr hrk e => by
      obtain ⟨c', p', b1, b2, b3, _⟩ := a2 r hr hrk
      rw [b2] at e
      have := nI_inj (by omega) (by omega) e
      omega
    by_cases hqk : q = k
    · subst hqk
      have hrk : r ≠ q := fun e => hqr e.symm
      rw [wT_ss, wT_sn _ _ _ hrk]
      exact ne r (by omega) hrk
    · by_cases hrk : r = k
      · subst hrk
        rw [wT_ss, wT_sn _ _ _ hqk]
        exact fun e => ne q (by omega) hqk e.symm
      · rw [wT_sn _ _ _ hqk, wT_sn _ _ _ hrk]
        exact a3 q r (by omega) (by omega) hqk hrk hqr
theorem s_ins_l (κ : Int32 → Int32 → Tm → Option (Int32 × Tm)) {c p len : Nat} (hp : p < 6) (hc : c < n) (hl : len < 6) : ∀ (m k : Nat) (M : Mm) (TM : Tm), k ≤ len → k < m → Iv (M 1) n → RS (M 1) (TM 1) 0 n → M 1 3 c = nI p → TM 4 p = nI c → HOL M TM n p len k →
    ∃ (X : Tm) (TM' : Tm), m_X2_insert_18 m (nI c) (M 1 2 p) (nI k) M = some (0, uM M 11 X) ∧ m_X6_lines_34 κ m (nI len) (nI p) (nI k) TM = m_X6_lines_102 κ (nI (len + 1)) (nI p) TM' ∧ (∀ q, q ≠ 3 → TM' q = TM q) ∧ ROW (uM M 11 X) TM' n (p + 1) (len + 1) := by
  intro m
  induction m with
  | zero => intro k M TM _ h; omega
  | succ m ih =>
    intro k M TM hk hm hI hR h3 h4 hH
    have hn := iv_n hI
    rw [m_X2_insert_18.eq_2, m_X6_lines_34.eq_2]
    cases k with
    | zero =>
      have c0 : nI 0 ≤ 0 := by decide
      rw [if_pos c0, if_pos c0]
      exact s_ins_f κ hp hc hk hl h3 h4 hH
    | succ k =>
      have c0 : ¬ nI (k + 1) ≤ 0 := nI_nle (by omega) (by omega)
      obtain ⟨c', p', b1, b2, b3, b4, b5, b6⟩ := hH.2.1 k (by omega) (by omega)
      rw [if_neg c0, if_neg c0, nI_m1 (by omega), Nat.add_sub_cancel, ib_nI (show k < 6 by omega) (by decide)]
      simp only [gd_t, nm_u]
      rw [cl_nI (show k < 2 ^ 31 by omega), b1, b2, ib_nI (show c' < 30 by omega) (by decide), cl_nI (show c' < 2 ^ 31 by omega), b6, ib_nI (show p' < 6 by omega) (by decide), cl_nI (show p' < 2 ^ 31 by omega), i_pl, i_pl1, i_pl, i_pl1, ib_nI (show 5 + 2 * p' < 2048 by omega) (by decide), ib_nI (show 5 + 2 * p < 2048 by omega) (by decide), cl_nI (show 5 + 2 * p' < 2 ^ 31 by omega), cl_nI (show 5 + 2 * p < 2 ^ 31 by omega), rsp2 hR (show p' < 6 by omega), rsp2 hR hp, ib_nI (show k + 1 < 6 by omega) (by decide), cl_nI (show k + 1 < 2 ^ 31 by omega)]
      simp only [gd_t]
      by_cases hle : M 1 2 p' ≤ M 1 2 p
      · rw [if_pos hle, if_pos hle]
        exact s_ins_f κ hp hc hk hl h3 h4 hH
      · rw [if_neg hle, if_neg hle]
        rw [nI_d1 (by omega), Nat.add_sub_cancel]
        obtain ⟨a1, a2, a3⟩ := hH
        have u1 : wM M 11 1 (k + 1) (nI c') 1 = M 1 := uM_ne _ _ _ (by decide)
        have e1 : ∀ q, q ≠ k + 1 → wM M 11 1 (k + 1) (nI c') 11 1 q = M 11 1 q := fun q hq => by rw [wM_at]; exact up_n _ _ hq
        have e2 : wM M 11 1 (k + 1) (nI c') 11 1 (k + 1) = M 11 1 k := by rw [wM_at, b1]; exact up_s _ _ _
        have e3 : ∀ q, q ≠ k + 1 → wT TM 3 (k + 1) (nI p') 3 q = TM 3 q := fun q hq => wT_sn _ _ _ hq
        have e4 : wT TM 3 (k + 1) (nI p') 3 (k + 1) = TM 3 k := by rw [wT_ss, b2]
        obtain ⟨X, TM', f1, f2, f3, f4⟩ := ih k (wM M 11 1 (k + 1) (nI c')) (wT TM 3 (k + 1) (nI p')) (by omega) (by omega) (by rw [u1]; exact hI) (by rw [u1, wT_ne _ _ _ (by decide)]; exact hR) (by rw [u1]; exact h3) (by rw [wT_n _ _ _ _ (by decide)]; exact h4) (by
          refine ⟨by rw [wM_off _ _ _ _ _ _ _ (by decide)]; exact a1, fun q hq hqk => ?_, fun q r hq hr hqk hrk hqr => ?_⟩
          · have t : EN M TM n p (wM M 11 1 (k + 1) (nI c') 11 1 q) (wT TM 3 (k + 1) (nI p') 3 q) := by
              by_cases h5 : q = k + 1
              · subst h5
                rw [e2, e4]
                exact a2 k (by omega) (by omega)
              · rw [e1 q h5, e3 q h5]
                exact a2 q hq h5
            exact en_m (by rw [u1]) (fun p _ => wT_n _ _ _ _ (by decide)) (Nat.le_refl _) t
          · by_cases h5 : q = k + 1
            · subst h5
              have h6 : r ≠ k + 1 := fun e => hqr e.symm
              rw [e4, e3 r h6]
              exact a3 k r (by omega) hr (by omega) h6 (fun e => hrk e.symm)
            · by_cases h6 : r = k + 1
              · subst h6
                rw [e4, e3 q h5]
                exact a3 q k hq (by omega) h5 (by omega) hqk
              · rw [e3 q h5, e3 r h6]
                exact a3 q r hq hr h5 h6 hqr)
        have eu : uM (wM M 11 1 (k + 1) (nI c')) 11 X = uM M 11 X := by unfold wM; rw [uM_uM]
        rw [u1, eu] at f1
        rw [eu] at f4
        exact ⟨X, TM', f1, f2, fun q hq => (f3 q hq).trans (wT_ne _ _ _ hq), f4⟩
theorem s_lineUp_l : ∀ (m p len : Nat) (M : Mm) (TM : Tm), p ≤ 6 → 6 - p < m → len ≤ p → Iv (M 1) n → RS (M 1) (TM 1) 0 n → ROW M TM n p len →
    ∃ (len' : Nat) (M' : Mm) (TM' : Tm), m_X2_lineUp_7 m (nI p) M = some (0, M') ∧ m_X6_lines_4 m (nI len) (nI p) TM = some (nI len', TM') ∧ len' ≤ 6 ∧ ROW M' TM' n 6 len' ∧ (∀ q, q ≠ 11 → M' q = M q) ∧ (∀ q, q ≠ 3 → q ≠ 4 → TM' q = TM q) := by
  intro m
  induction m with
  | zero => intro p len M TM _ h; omega
  | succ m ih =>
    intro p len M TM hp hm hlp hI hR hW
    have hn := iv_n hI
    rw [m_X2_lineUp_7.eq_2, m_X6_lines_4.eq_2]
    by_cases h6 : p = 6
    · subst h6
      have c : (6 : Int32) ≤ nI 6 := by decide
      rw [if_pos c, if_pos c]
      exact ⟨len, M, TM, rfl, rfl, hlp, hW, fun _ _ => rfl, fun _ _ _ => rfl⟩
    · have c : ¬ (6 : Int32) ≤ nI p := nI_ge (b := 6) (by omega) (by decide)
      have hp6 : p < 6 := by omega
      rw [if_neg c, if_neg c, s_conkerToSend hI, bnd_s, nm_u, uM_self, s_bestM hn hR, bnd_s, ib_nI hp6 (by decide), cl_nI (show p < 2 ^ 31 by omega)]
      simp only [gd_t, nm_u]
      rw [wT_ss]
      have t1 : ∀ v, (wT TM 4 p v) 1 = TM 1 := fun v => wT_ne _ _ _ (by decide)
      have t3 : ∀ v, (wT TM 4 p v) 3 = TM 3 := fun v => wT_ne _ _ _ (by decide)
      have hW2 : ∀ v, ROW M (wT TM 4 p v) n p len := fun v => by
        obtain ⟨a1, a2, a3⟩ := hW
        refine ⟨a1, fun q hq => ?_, fun q r hq hr hqr => ?_⟩
        · rw [t3]
          exact en_m rfl (fun p' hp' => wT_sn _ _ _ (by omega)) (Nat.le_refl _) (a2 q hq)
        · rw [t3]
          exact a3 q r hq hr hqr
      rcases bst_or (M 1) (nI p) n with e | ⟨j, hj, e, _, eo⟩
      · have c5 : ((-5) : Int32) < 0 := by decide
        rw [e, if_pos c5, if_pos rfl]
        unfold m_X2_lineUp_29 m_X6_lines_102
        rw [nI_p1]
        have hW3 : ROW M (wT TM 4 p (-5)) n (p + 1) len := by
          obtain ⟨a1, a2, a3⟩ := hW2 (-5)
          exact ⟨a1, fun q hq => en_m rfl (fun _ _ => rfl) (by omega) (a2 q hq), a3⟩
        obtain ⟨len', M', TM', f1, f2, f3, f4, f5, f6⟩ := ih (p + 1) len M (wT TM 4 p (-5)) (by omega) (by omega) (by omega) hI (by rw [t1]; exact hR) hW3
        exact ⟨len', M', TM', f1, f2, f3, f4, f5, fun q h3 h4 => (f6 q h3 h4).trans (wT_ne _ _ _ h4)⟩
      · rw [e, if_neg (nn0 (by omega)), if_neg (nI_nem5 (by omega))]
        unfold m_X2_insert
        rw [ib_nI (show j < 30 by omega) (by decide), gd_t, nm_u, cl_nI (show j < 2 ^ 31 by omega), eo, ib_nI hp6 (by decide), gd_t, nm_u, nm_u, cl_nI (show p < 2 ^ 31 by omega), hW.1]
        have hH : HOL M (wT TM 4 p (nI j)) n p len len := by
          obtain ⟨a1, a2, a3⟩ := hW2 (nI j)
          exact ⟨a1, fun q hq hqk => a2 q (by omega), fun q r hq hr hqk hrk hqr => a3 q r (by omega) (by omega) hqr⟩
        obtain ⟨X, TM1, g1, g2, g3, g4⟩ := s_ins_l (m_X6_lines_4 m) hp6 hj (show len < 6 by omega) fu len M (wT TM 4 p (nI j)) (Nat.le_refl _) (by unfold fu; omega) hI (by rw [t1]; exact hR) eo (wT_ss _ _ _ _) hH
        rw [g1, bnd_s, g2]
        unfold m_X2_lineUp_29 m_X6_lines_102
        rw [nI_p1]
        have u1 : (uM M 11 X) 1 = M 1 := uM_ne _ _ _ (by decide)
        obtain ⟨len', M', TM', f1, f2, f3, f4, f5, f6⟩ := ih (p + 1) (len + 1) (uM M 11 X) TM1 (by omega) (by omega) (by omega) (by rw [u1]; exact hI) (by rw [u1, g3 1 (by decide), t1]; exact hR) g4
        refine ⟨len', M', TM', f1, f2, f3, f4, fun q hq => (f5 q hq).trans (uM_ne _ _ _ hq), fun q h3 h4 => ?_⟩
        rw [f6 q h3 h4, g3 q h3, wT_ne _ _ _ h4]
theorem s_lineUp (hI : Iv (M 1) n) (hR : RS (M 1) (TM 1) 0 n) : ∃ (len' : Nat) (M' : Mm) (TM' : Tm), m_X2_lineUp M = some (0, M') ∧ m_X6_lines TM = some (nI len', TM') ∧ len' ≤ 6 ∧ ROW M' TM' n 6 len' ∧ (∀ q, q ≠ 11 → M' q = M q) ∧ (∀ q, q ≠ 3 → q ≠ 4 → TM' q = TM q) := by
  unfold m_X2_lineUp m_X6_lines
  rw [nm_u]
  have u1 : wM M 11 0 1 0 1 = M 1 := uM_ne _ _ _ (by decide)
  obtain ⟨len', M', TM', f1, f2, f3, f4, f5, f6⟩ := s_lineUp_l fu 0 0 (wM M 11 0 1 0) TM (by decide) (by unfold fu; omega) (Nat.le_refl _) (by rw [u1]; exact hI) (by rw [u1]; exact hR) ⟨by rw [wM_at]; exact up_s _ _ _, fun q hq => by omega, fun q r hq => by omega⟩
  exact ⟨len', M', TM', f1, f2, f3, f4, fun q hq => (f5 q hq).trans (uM_ne _ _ _ hq), f6⟩
end ROUND
