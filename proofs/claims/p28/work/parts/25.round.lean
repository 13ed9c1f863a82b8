/-! A ROUND: the row, its bouts -/
/-- who sends a conker -/
def snd (T : Tm) (n : Nat) : Nat → Bool := fun p => !decide (bst T (nI p) n = (-5))
def EN (T : Tm) (n pl : Nat) (x : Int32) : Prop := ∃ c p, x = nI c ∧ c < n ∧ p < pl ∧ T 3 c = nI p ∧ T 9 c = 0
def DN (T : Tm) (n : Nat) (x y : Int32) : Prop := ∀ c d : Nat, c < n → d < n → x = nI c → y = nI d → T 3 c ≠ T 3 d
def RW (T : Tm) (n pl len : Nat) (X : Tm) : Prop := X 0 1 = nI len ∧ (∀ q, q < len → EN T n pl (X 1 q)) ∧ ∀ q r, q < len → r < len → q ≠ r → DN T n (X 1 q) (X 1 r)
def HO (T : Tm) (n pl len k : Nat) (X : Tm) : Prop := X 0 1 = nI len ∧ (∀ q, q ≤ len → q ≠ k → EN T n pl (X 1 q)) ∧ ∀ q r, q ≤ len → r ≤ len → q ≠ k → r ≠ k → q ≠ r → DN T n (X 1 q) (X 1 r)
section ROUND3
variable {M : Mm} {T : Tm} {n s : Nat}
theorem en_up {pl pl' : Nat} {x : Int32} (h : pl ≤ pl') (hE : EN T n pl x) : EN T n pl' x := by
  obtain ⟨c, p, a, b, d, e, f⟩ := hE
  exact ⟨c, p, a, b, by omega, e, f⟩
theorem dn_sym {x y : Int32} (h : DN T n x y) : DN T n y x := fun c d lc ld hc hd e => h d c ld lc hd hc e.symm
theorem s_ins_f {c p len k : Nat} (hp : p < 6) (hn : n ≤ 30) (hc : c < n) (hk : k ≤ len) (hl : len < 6) (h3 : T 3 c = nI p) (h9 : T 9 c = 0) (hH : HO T n p len k (M 11)) :
    ∃ X : Tm, m_X2_insert_68 (nI c) (nI k) M = some (0, uM M 11 X) ∧ RW T n (p + 1) (len + 1) X := by
  obtain ⟨a1, a2, a3⟩ := hH
  refine ⟨wT (wT (M 11) 1 k (nI c)) 0 1 (nI (len + 1)), ?_, ?_, fun q hq => ?_, fun q r hq hr hqr => ?_⟩
  · unfold m_X2_insert_68
    rw [ib_nI (by omega) (by decide), gd_t, cl_nI (by omega)]
    simp only [nm_u]
    have e : wM M 11 1 k (nI c) 11 0 1 = nI len := by rw [wM_off _ _ _ _ _ _ _ (by decide)]; exact a1
    rw [e, nI_p1]
    unfold wM
    rw [uM_same, uM_uM]
  · rw [wT_ss]
  · rw [wT_n _ _ _ _ (by decide)]
    by_cases hqk : q = k
    · subst hqk
      rw [wT_ss]
      exact ⟨c, p, rfl, hc, by omega, h3, h9⟩
    · rw [wT_sn _ _ _ hqk]
      exact en_up (by omega) (a2 q (by omega) hqk)
  · have ne : ∀ r, r ≤ len → r ≠ k → DN T n (nI c) (M 11 1 r) := fun r hr hrk c1 d1 l1 l2 e1 e2 e => by
      obtain ⟨c', p', b1, b2, b3, b4, _⟩ := a2 r hr hrk
      have e5 := nI_inj (by omega) (by omega) (b1.symm.trans e2)
      subst e5
      have e6 := nI_inj (by omega) (by omega) e1
      subst e6
      rw [h3, b4] at e
      have := nI_inj (by omega) (by omega) e
      omega
    have y1 : ∀ y, (wT (wT (M 11) 1 k (nI c)) 0 1 (nI (len + 1))) 1 y = wT (M 11) 1 k (nI c) 1 y := fun y => wT_n _ _ _ _ (by decide)
    rw [y1, y1]
    by_cases hqk : q = k
    · subst hqk
      have hrk : r ≠ q := fun e => hqr e.symm
      rw [wT_ss, wT_sn _ _ _ hrk]
      exact ne r (by omega) hrk
    · by_cases hrk : r = k
      · subst hrk
        rw [wT_ss, wT_sn _ _ _ hqk]
        exact dn_sym (ne q (by omega) hqk)
      · rw [wT_sn _ _ _ hqk, wT_sn _ _ _ hrk]
        exact a3 q r (by omega) (by omega) hqk hrk hqr
theorem s_ins_l {c p len : Nat} (hp : p < 6) (hc : c < n) (hl : len < 6) : ∀ (m k : Nat) (M : Mm), k ≤ len → k < m → M 1 = T → Iv T n → T 3 c = nI p → T 9 c = 0 → HO T n p len k (M 11) →
    ∃ X : Tm, m_X2_insert_18 m (nI c) (T 2 p) (nI k) M = some (0, uM M 11 X) ∧ RW T n (p + 1) (len + 1) X := by
  intro m
  induction m with
  | zero => intro k M _ h; omega
  | succ m ih =>
    intro k M hk hm e1 hI h3 h9 hH
    have hn := iv_n hI
    rw [m_X2_insert_18.eq_2]
    cases k with
    | zero =>
      have c0 : nI 0 ≤ 0 := by decide
      rw [if_pos c0]
      exact s_ins_f hp hn hc hk hl h3 h9 hH
    | succ k =>
      have c0 : ¬ nI (k + 1) ≤ 0 := nI_nle (by omega) (by omega)
      obtain ⟨c', p', b1, b2, b3, b4, b5⟩ := hH.2.1 k (by omega) (by omega)
      rw [if_neg c0, nI_m1 (by omega), Nat.add_sub_cancel, ib_nI (show k < 6 by omega) (by decide)]
      simp only [gd_t, nm_u]
      rw [cl_nI (show k < 2 ^ 31 by omega), b1, ib_nI (show c' < 30 by omega) (by decide), cl_nI (show c' < 2 ^ 31 by omega), e1, b4, ib_nI (show p' < 6 by omega) (by decide), cl_nI (show p' < 2 ^ 31 by omega), ib_nI (show k + 1 < 6 by omega) (by decide), cl_nI (show k + 1 < 2 ^ 31 by omega)]
      simp only [gd_t]
      by_cases hle : T 2 p' ≤ T 2 p
      · rw [if_pos hle]
        exact s_ins_f hp hn hc hk hl h3 h9 hH
      · rw [if_neg hle, nI_d1 (by omega), Nat.add_sub_cancel]
        obtain ⟨a1, a2, a3⟩ := hH
        have u1 : wM M 11 1 (k + 1) (nI c') 1 = M 1 := uM_ne _ _ _ (by decide)
        have f1 : ∀ q, q ≠ k + 1 → wM M 11 1 (k + 1) (nI c') 11 1 q = M 11 1 q := fun q hq => by
          unfold wM
          rw [uM_same, wT_sn _ _ _ hq]
        have f2 : wM M 11 1 (k + 1) (nI c') 11 1 (k + 1) = M 11 1 k := by
          unfold wM
          rw [uM_same, wT_ss, b1]
        obtain ⟨X, g1, g2⟩ := ih k (wM M 11 1 (k + 1) (nI c')) (by omega) (by omega) (by rw [u1]; exact e1) hI h3 h9 (by
          refine ⟨by rw [wM_off _ _ _ _ _ _ _ (by decide)]; exact a1, fun q hq hqk => ?_, fun q r hq hr hqk hrk hqr => ?_⟩
          · by_cases h5 : q = k + 1
            · subst h5
              rw [f2]
              exact a2 k (by omega) (by omega)
            · rw [f1 q h5]
              exact a2 q hq h5
          · by_cases h5 : q = k + 1
            · subst h5
              have h6 : r ≠ k + 1 := fun e => hqr e.symm
              rw [f2, f1 r h6]
              exact a3 k r (by omega) hr (by omega) h6 (fun e => hrk e.symm)
            · by_cases h6 : r = k + 1
              · subst h6
                rw [f2, f1 q h5]
                exact a3 q k hq (by omega) h5 (by omega) hqk
              · rw [f1 q h5, f1 r h6]
                exact a3 q r hq hr h5 h6 hqr)
        have eu : uM (wM M 11 1 (k + 1) (nI c')) 11 X = uM M 11 X := by unfold wM; rw [uM_uM]
        rw [eu] at g1
        exact ⟨X, g1, g2⟩
theorem s_lineUp_l : ∀ (m p len : Nat) (M : Mm), p ≤ 6 → 6 - p < m → len = cnt (snd T n) p → M 1 = T → Iv T n → RW T n p len (M 11) →
    ∃ M' : Mm, m_X2_lineUp_7 m (nI p) M = some (0, M') ∧ RW T n 6 (cnt (snd T n) 6) (M' 11) ∧ ∀ q, q ≠ 11 → M' q = M q := by
  intro m
  induction m with
  | zero => intro p len M _ h; omega
  | succ m ih =>
    intro p len M hp hm hlen e1 hI hW
    have hn := iv_n hI
    have hlp : len ≤ p := by rw [hlen]; exact cnt_le _ _
    rw [m_X2_lineUp_7.eq_2]
    by_cases h6 : p = 6
    · subst h6
      have c : (6 : Int32) ≤ nI 6 := by decide
      rw [if_pos c]
      exact ⟨M, rfl, by rw [← hlen]; exact hW, fun _ _ => rfl⟩
    · have c : ¬ (6 : Int32) ≤ nI p := nI_ge (b := 6) (by omega) (by decide)
      have hp6 : p < 6 := by omega
      rw [if_neg c, e1, s_conkerToSend hI, bnd_s, nm_u, ← e1, uM_self, e1]
      rcases bst_or T (nI p) n with e | ⟨j, hj, e, e9, eo⟩
      · have c5 : ((-5) : Int32) < 0 := by decide
        rw [e, if_pos c5]
        unfold m_X2_lineUp_29
        rw [nI_p1]
        obtain ⟨a1, a2, a3⟩ := hW
        exact ih (p + 1) len M (by omega) (by omega) (by rw [cnt, ← hlen]; simp [snd, e]) e1 hI ⟨a1, fun q hq => en_up (by omega) (a2 q hq), a3⟩
      · rw [e, if_neg (nn0 (by omega))]
        unfold m_X2_insert
        rw [ib_nI (show j < 30 by omega) (by decide), gd_t, nm_u, cl_nI (show j < 2 ^ 31 by omega), e1, eo, ib_nI hp6 (by decide), gd_t, nm_u, nm_u, cl_nI (show p < 2 ^ 31 by omega), hW.1]
        have hH : HO T n p len len (M 11) := by
          obtain ⟨a1, a2, a3⟩ := hW
          exact ⟨a1, fun q hq hqk => a2 q (by omega), fun q r hq hr hqk hrk hqr => a3 q r (by omega) (by omega) hqr⟩
        obtain ⟨X, g1, g2⟩ := s_ins_l hp6 hj (show len < 6 by omega) fu len M (Nat.le_refl _) (by unfold fu; omega) e1 hI eo e9 hH
        rw [g1, bnd_s]
        unfold m_X2_lineUp_29
        rw [nI_p1]
        have u1 : (uM M 11 X) 1 = M 1 := uM_ne _ _ _ (by decide)
        have hne : ¬ nI j = (-5) := nI_nem5 (by omega)
        obtain ⟨M', f1, f2, f3⟩ := ih (p + 1) (len + 1) (uM M 11 X) (by omega) (by omega) (by rw [cnt, ← hlen]; simp [snd, e, hne]) (by rw [u1]; exact e1) hI (by rw [uM_same]; exact g2)
        exact ⟨M', f1, f2, fun q hq => (f3 q hq).trans (uM_ne _ _ _ hq)⟩
theorem s_lineUp (hI : Iv T n) (e1 : M 1 = T) : ∃ M' : Mm, m_X2_lineUp M = some (0, M') ∧ RW T n 6 (cnt (snd T n) 6) (M' 11) ∧ ∀ q, q ≠ 11 → M' q = M q := by
  unfold m_X2_lineUp
  rw [nm_u]
  have u1 : wM M 11 0 1 0 1 = M 1 := uM_ne _ _ _ (by decide)
  have u11 : wM M 11 0 1 0 11 0 1 = nI 0 := by
    unfold wM
    rw [uM_same, wT_ss]
    rfl
  obtain ⟨M', f1, f2, f3⟩ := s_lineUp_l (T := T) (n := n) fu 0 0 (wM M 11 0 1 0) (by decide) (by unfold fu; omega) rfl (by rw [u1]; exact e1) hI ⟨u11, fun q hq => by omega, fun q r hq => by omega⟩
  exact ⟨M', f1, f2, fun q hq => (f3 q hq).trans (uM_ne _ _ _ hq)⟩
set_option maxHeartbeats 4000000 in
theorem s_round_l : ∀ (m j len s : Nat) (M : Mm), len + 2 * j ≤ 6 → 6 - j < m → St (M 1) n s → RW (M 1) n 6 len (M 11) → XR (M 10 0 0) →
    ∃ (M' : Mm) (s' : Nat), m_X5_round_45 m (nI j) M = some (nI (j + len / 2), M') ∧ St (M' 1) n s' ∧ s + len / 2 ≤ s' ∧ s' ≤ s + 20 * (len / 2) ∧ ∀ q, q ≠ 1 → q ≠ 10 → q ≠ 11 → M' q = M q := by
  intro m
  induction m with
  | zero => intro j len s M _ h; omega
  | succ m ih =>
    intro j len s M hj hm hS hW hX
    have hI := hS.1
    have hn := iv_n hI
    have c6 : ¬ (6 : Int32) ≤ nI j ∨ j = 6 := by
      by_cases h : j = 6
      · exact Or.inr h
      · exact Or.inl (nI_ge (b := 6) (by omega) (by decide))
    rw [m_X5_round_45.eq_2]
    unfold m_X5_round_120
    rcases c6 with c6 | c6
    · rw [if_neg c6]
      simp only [nm_u]
      rw [hW.1]
      by_cases h2 : len < 2
      · have c1 : nI len < 2 := nI_lt (b := 2) h2 (by decide)
        have e0 : len / 2 = 0 := by omega
        rw [if_pos c1, e0]
        exact ⟨M, s, rfl, hS, by omega, by omega, fun _ _ _ _ => rfl⟩
      · have c1 : ¬ nI len < 2 := nlt (b := 2) (by omega) (by omega)
        have hX' := nx_XR hX
        obtain ⟨x, hx2, ex⟩ := hX'
        have hmod := Nat.mod_lt x (show 0 < len - 1 by omega)
        have hk1 : 1 ≤ 1 + x % (len - 1) := by omega
        have hk : 1 + x % (len - 1) < len := by omega
        have e11 : ∀ X, (uM M 10 X) 11 = M 11 := fun X => uM_ne _ _ _ (by decide)
        have g0 : (!decide (nI (len - 1) = 0)) = true := by
          have : ¬ nI (len - 1) = 0 := nI_ne0 (by omega) (by omega)
          simp [this]
        have ek : (1 : Int32) + (nI x - nI x / nI (len - 1) * nI (len - 1)) = nI (1 + x % (len - 1)) := by
          rw [pk_rem (by omega) (by omega) (by omega), show (1 : Int32) = nI 1 from rfl, nI_add]
        generalize hkk : 1 + x % (len - 1) = k at hk1 hk ek
        obtain ⟨a1, a2, a3⟩ := hW
        obtain ⟨c0, p0, x1, x2, x3, x4, x5⟩ := a2 0 (by omega)
        obtain ⟨ck, pk, y1, y2, y3, y4, y5⟩ := a2 k hk
        have hown : M 1 3 c0 ≠ M 1 3 ck := a3 0 k (by omega) hk (by omega) c0 ck x2 y2 x1 y1
        have hne : c0 ≠ ck := fun e => hown (by rw [e])
        obtain ⟨T1, f1, f2, f3, f4⟩ := s_takeOut (T := M 11) (by omega) hk a1
        obtain ⟨T2, d1, d2, d3, d4⟩ := s_takeOut (T := T1) (len := len - 1) (idx := 0) (by omega) (by omega) f2
        have e2 : ∀ q, q < len - 2 → T2 1 q = if q + 1 < k then M 11 1 (q + 1) else M 11 1 (q + 2) := fun q hq => by
          rw [d4 q (by omega) (by omega)]
          by_cases h3 : q + 1 < k
          · rw [if_pos h3]; exact f3 _ h3
          · rw [if_neg h3]; exact f4 _ (by omega) (by omega)
        have z0 : nI 0 = 0 := rfl
        have r1 : T1 1 0 = nI c0 := by rw [f3 0 (by omega)]; exact x1
        have hR1 : ∀ X Y, (uM (uM M 10 X) 11 Y) 1 = M 1 := fun X Y => by rw [uM_ne _ _ _ (by decide), uM_ne _ _ _ (by decide)]
        have hR10 : ∀ X Y, (uM (uM M 10 X) 11 Y) 10 = X := fun X Y => by rw [uM_ne _ _ _ (by decide), uM_same]
        have h10 : (uM (uM M 10 (wT (M 10) 0 0 (nI x))) 11 T2) 10 0 0 = nI x := by rw [hR10, wT_ss]
        obtain ⟨M', w1, w2, w3, w4⟩ := m_fight (k := 1) (s := s) (n := n) (M := uM (uM M 10 (wT (M 10) 0 0 (nI x))) 11 T2) (by decide) (by rw [hR1]; exact hS) x2 y2 hne (by rw [hR1]; exact hown) (by rw [h10]; exact ⟨x, hx2, rfl⟩)
        rw [hR1, h10] at w1 w2 w3
        obtain ⟨v1, v2, v3, v4, v5, v6⟩ := fight_all hS x2 y2 hne hown (x := nI x) ⟨x, hx2, rfl⟩ x5 y5
        obtain ⟨o1, o2⟩ := fg_off 20 (min c0 ck) (max c0 ck) (M 1) (nI x)
        have hM3 : M' 1 3 = M 1 3 := by rw [w2]; exact o1 3 (by omega)
        have hM11 : M' 11 = T2 := by rw [w4 11 (by decide) (by decide), uM_same]
        have en' : ∀ q, q < len → q ≠ 0 → q ≠ k → EN (M' 1) n 6 (M 11 1 q) := by
          intro q hq hq0 hqk
          obtain ⟨c, p, z1, z2, z3, z4, z5⟩ := a2 q hq
          have n1 : M 1 3 c ≠ M 1 3 c0 := a3 q 0 hq (by omega) hq0 c c0 z2 x2 z1 x1
          have n2 : M 1 3 c ≠ M 1 3 ck := a3 q k hq hk hqk c ck z2 y2 z1 y1
          have m1 : c ≠ c0 := fun e => n1 (by rw [e])
          have m2 : c ≠ ck := fun e => n2 (by rw [e])
          refine ⟨c, p, z1, z2, z3, by rw [hM3]; exact z4, ?_⟩
          rw [w2, o2 9 c (by decide) (by omega) (by omega)]
          exact z5
        have dn' : ∀ q r, q < len → r < len → q ≠ r → DN (M' 1) n (M 11 1 q) (M 11 1 r) := by
          intro q r hq hr hqr c d l1 l2 e3 e4
          rw [hM3]
          exact a3 q r hq hr hqr c d l1 l2 e3 e4
        have hW' : RW (M' 1) n 6 (len - 2) (M' 11) := by
          refine ⟨?_, fun q hq => ?_, fun q t hq hs hqs => ?_⟩
          · rw [hM11, d2]
            have e : len - 1 - 1 = len - 2 := by omega
            rw [e]
          · rw [hM11, e2 q hq]
            by_cases h3 : q + 1 < k
            · rw [if_pos h3]
              exact en' (q + 1) (by omega) (by omega) (by omega)
            · rw [if_neg h3]
              exact en' (q + 2) (by omega) (by omega) (by omega)
          · rw [hM11, e2 q hq, e2 t hs]
            by_cases h3 : q + 1 < k
            · rw [if_pos h3]
              by_cases h4 : t + 1 < k
              · rw [if_pos h4]; exact dn' _ _ (by omega) (by omega) (by omega)
              · rw [if_neg h4]; exact dn' _ _ (by omega) (by omega) (by omega)
            · rw [if_neg h3]
              by_cases h4 : t + 1 < k
              · rw [if_pos h4]; exact dn' _ _ (by omega) (by omega) (by omega)
              · rw [if_neg h4]; exact dn' _ _ (by omega) (by omega) (by omega)
        have hX2 : XR (M' 10 0 0) := by rw [w3]; exact v2
        obtain ⟨M2, s2, b1, b2, b3, b4, b5⟩ := ih (j + 1) (len - 2) (s + fgN 20 (min c0 ck) (max c0 ck) (M 1) (nI x)) M' (by omega) (by omega) (by rw [w2]; exact v1) hW' hX2
        have eb : (len - 2) / 2 = len / 2 - 1 := by omega
        rw [eb] at b1 b3 b4
        have ej : j + 1 + (len / 2 - 1) = j + len / 2 := by omega
        rw [ej] at b1
        refine ⟨M2, s2, ?_, b2, by omega, by omega, fun q q1 q2 q3 => ?_⟩
        · rw [if_neg c1, s_next, bnd_s, ex, e11, a1, nI_m1 (by omega), g0, gd_t, ek, f1, bnd_s, y1]
          rw [uM_same, ← z0, d1, bnd_s, uM_uM, r1, w1, bnd_s, nI_p1]
          exact b1
        · rw [b5 q q1 q2 q3, w4 q q1 q2, uM_ne _ _ _ q3, uM_ne _ _ _ q2]
    · subst c6
      have e0 : len = 0 := by omega
      subst e0
      rw [if_pos (by decide)]
      exact ⟨M, s, rfl, hS, by omega, by omega, fun _ _ _ _ => rfl⟩
/-- a round of numbers in range -/
theorem A_round (hS : St T n s) {x : Nat} (hx : x < 65536) : Act (m_X5_round (nI x)) T (nI (cnt (snd T n) 6 / 2)) true (fun T' => ∃ s', St T' n s' ∧ s + cnt (snd T n) 6 / 2 ≤ s' ∧ s' ≤ s + 20 * (cnt (snd T n) 6 / 2)) := by
  have h := hS.1
  intro M hh e H J
  obtain ⟨M', a, b, c, d⟩ := m_keep H
  have e1 : M' 1 = T := (d 1 (by decide) (by omega)).trans e
  have e3 : M' 3 = M 3 := d 3 (by decide) (by omega)
  have u1 : (uM M' 10 (wT (M' 10) 0 0 (nI x))) 1 = T := (uM_ne _ _ _ (by decide)).trans e1
  have u10 : (uM M' 10 (wT (M' 10) 0 0 (nI x))) 10 0 0 = nI x := by rw [uM_same, wT_ss]
  obtain ⟨M2, f1, f2, f3⟩ := s_lineUp (M := uM M' 10 (wT (M' 10) 0 0 (nI x))) h u1
  have e21 : M2 1 = T := (f3 1 (by decide)).trans u1
  have l6 := cnt_le (snd T n) 6
  obtain ⟨M3, s3, g1, g2, g3, g4, g5⟩ := s_round_l fu 0 (cnt (snd T n) 6) s M2 (by omega) (by unfold fu; omega) (by rw [e21]; exact hS) (by rw [e21]; exact f2) (by rw [f3 10 (by decide), u10]; exact ⟨x, hx, rfl⟩)
  have o : ∀ q, q ≠ 1 → q ≠ 10 → q ≠ 11 → M3 q = M' q := fun q q1 q2 q3 => by rw [g5 q q1 q2 q3, f3 q q3, uM_ne _ _ _ q2]
  rw [Nat.zero_add] at g1
  have hw : wi (nI x) 0 65535 = true := by
    unfold wi
    have c1 : (0 : Int32) ≤ nI x := nI_pos' (by omega)
    have c2 : nI x ≤ 65535 := nI_le (b := 65535) (by omega) (by decide)
    simp [c1, c2]
  refine ⟨M3, ?_, by rw [o 3 (by decide) (by decide) (by decide), e3]; exact J, ⟨s3, g2, g3, g4⟩, hi_12 (o 12 (by decide) (by decide) (by decide)) b, ?_⟩
  · unfold m_X5_round
    rw [s_isWithin, bnd_s, hw, bf_t, a, bnd_s]
    unfold m_X0_begin
    rw [nm_u, bnd_s, nm_u, f1, bnd_s]
    exact g1
  · rw [e] at c
    exact top_fr (o 12 (by decide) (by decide) (by decide)) (fun q q1 q2 => o q (by omega) (by omega) (by omega)) c
end ROUND3
