/-! fights and rounds -/
section FGT
variable {T : Tm} {n s : Nat}
set_option maxHeartbeats 2000000 in
/-- the winner that is told -/
theorem L_winner (hS : St T n s) {M : Mm} (e : M 1 = T) (J : Jk (M 3)) {i j x : Nat} (hx : x < 65536) (hi : i < n) (hj : j < n) (hij : i ≠ j) (ho : T 3 i ≠ T 3 j) (h9i : T 9 i = 0) (h9j : T 9 j = 0) (h0 : pE T n (nI i) (nI j) (wi (nI x) 0 65535) = 0) : ∃ M' : Mm, m_X5_winner (nI i) (nI j) (nI x) M = some (if (fgT 20 (min i j) (max i j) T (nI x) 9 i = 2 ↔ fgT 20 (min i j) (max i j) T (nI x) 9 j = 2) then (-5) else if fgT 20 (min i j) (max i j) T (nI x) 9 i = 2 then nI j else nI i, M') ∧ M' 1 = T ∧ M' 12 = M 12 ∧ Jk (M' 3) := by
  have hI := hS.1
  have hn := iv_n hI
  have u3 : ∀ X, uM (uM M 3 T) 10 X 3 = T := fun X => by rw [uM_ne _ _ _ (by decide), uM_same]
  have u10 : uM (uM M 3 T) 10 (wT (uM M 3 T 10) 0 0 (nI x)) 10 0 0 = nI x := by rw [uM_same, wT_ss]
  obtain ⟨M', f1, f2, f3, f4⟩ := m_fight (k := 3) (s := s) (n := n) (M := uM (uM M 3 T) 10 (wT (uM M 3 T 10) 0 0 (nI x))) (by decide) (by rw [u3]; exact hS) hi hj hij (by rw [u3]; exact ho) (by rw [u10]; exact ⟨x, hx, rfl⟩)
  rw [u3, u10] at f1 f2
  obtain ⟨g1, g2', g3, -⟩ := fight_all hS hi hj hij ho (x := nI x) ⟨x, hx, rfl⟩ h9i h9j
  refine ⟨M', ?_, ?_, ?_, ?_⟩
  · unfold m_X5_winner
    rw [e, s_boutError hI, bnd_s, nm_u, uM_id e, if_pos h0, s_copyFrom (by decide), bnd_s, e, cp_self J hS.2.2.1]
    unfold m_X0_begin
    rw [nm_u, bnd_s, nm_u, f1, bnd_s, ib_nI (show i < 30 by omega) (by decide), gd_t, nm_u, cl_nI (show i < 2 ^ 31 by omega), f2]
    unfold m_X5_winner_71 m_X5_winner_91
    rw [ib_nI (show j < 30 by omega) (by decide), gd_t, nm_u, gd_t, nm_u, cl_nI (show j < 2 ^ 31 by omega), f2]
    generalize fgT 20 (min i j) (max i j) T (nI x) = U
    have d1 : ¬ ((1 : Int32) = 0) := by decide
    have d2 : ¬ ((0 : Int32) = 1) := by decide
    by_cases q1 : U 9 i = 2 <;> by_cases q2 : U 9 j = 2 <;> simp [q1, q2, d1, d2]
  · rw [f4 1 (by decide) (by decide), uM_ne _ _ _ (by decide), uM_ne _ _ _ (by decide)]; exact e
  · rw [f4 12 (by decide) (by decide), uM_ne _ _ _ (by decide), uM_ne _ _ _ (by decide)]
  · rw [f2]; exact g1.2.2.1
set_option maxHeartbeats 8000000 in
theorem L_fights (hS : St T n s) (hs : s ≤ 100000) {M : Mm} {h : Nat} (e : M 1 = T) (H : Hi M h) (J : Jk (M 3)) {a b x : Nat} (hx : x < 65536) : ∃ M' h', m_L_fights (nI a) (nI b) (nI x) M = some (1, M') ∧ M' 1 = T ∧ Hi M' h' ∧ Jk (M' 3) := by
  have hI := hS.1
  have hn := iv_n hI
  obtain ⟨z, hP⟩ := pr_all hI
  have w1 : wi (nI x) 0 65535 = true := by
    unfold wi
    have c1 : (0 : Int32) ≤ nI x := nI_pos' (by omega)
    have c2 : nI x ≤ 65535 := nI_le (b := 65535) (by omega) (by decide)
    simp [c1, c2]
  by_cases h0 : pE T n (nI a) (nI b) true = 0
  · obtain ⟨i, j, hi, hj, ea, eb, -, hij, ho, h9i, h9j⟩ := pE_0 hn h0
    rw [ea, eb] at h0 ⊢
    clear ea eb
    have hji : j ≠ i := fun q => hij q.symm
    obtain ⟨M2, a1, a2, a3, a4⟩ := L_winner hS e J hx hi hj hij ho h9i h9j (by rw [w1]; exact h0)
    have e4 : (uM M2 99 (enc z)) 1 = T := (uM_ne _ _ _ (by decide)).trans a2
    have I4 : Iv ((uM M2 99 (enc z)) 1) n := by rw [e4]; exact hI
    obtain ⟨M8, k1, k2, k3, k4, k5⟩ := A_fight hS hx hi hj hij ho (by rw [w1]; exact h0) (uM M2 99 (enc z)) h e4 (hi_12 (by rw [uM_ne _ _ _ (by decide)]; exact a3) H) (by rw [uM_ne _ _ _ (by decide)]; exact a4)
    obtain ⟨S', g2', hJ2, r1, r20, r9⟩ := fight_all hS hi hj hij ho (x := nI x) ⟨x, hx, rfl⟩ h9i h9j
    unfold m_L_fights
    rw [a1, bnd_s, hP _ a2, bnd_s, nm_u, dec_enc, c_6 I4, bnd_s, e4, hS.2.2.2, k1, bnd_s, if_pos (nI_pos' (by omega))]
    generalize fgN 20 (min i j) (max i j) T (nI x) = r at *
    generalize fgT 20 (min i j) (max i j) T (nI x) = U at *
    have I8 : Iv (M8 1) n := by rw [k3]; exact S'.1
    have IU := S'.1
    -- the end
    have fin : ∃ M' h', m_L_fights_208 z M8 = some (1, M') ∧ M' 1 = T ∧ Hi M' h' ∧ Jk (M' 3) := by
      obtain ⟨Y, hY⟩ := L_conkers S' k3
      unfold m_L_fights_208 m_L_fights_220
      rw [hY, bnd_s, if_neg (by decide), if_neg (by decide)]
      exact back hS hP (hi_12 (uM_ne _ _ _ (by decide)) k4) (top_fr (uM_ne _ _ _ (by decide)) (fun q q1 q2 => uM_ne _ _ _ (by omega)) k5) (by rw [uM_ne _ _ _ (by decide), k3]; exact S'.2.2.1) (by rw [uM_ne _ _ _ (by decide)]; exact k2)
    have by5 : ∀ c, c < n → ¬ U 9 c = 2 → U 10 c = (-5) := fun c hc hne => by
      by_cases q : U 10 c = (-5)
      · exact q
      · exact absurd (iv_by2 IU c hc q) hne
    have kI := k_6 I8 hi
    have kJ := k_6 I8 hj
    have bI := k_7 I8 hi
    have bJ := k_7 I8 hj
    rw [k3] at kI kJ bI bJ
    obtain ⟨⟨x1, lx, ex⟩, -⟩ := S'.2.1 i hi
    obtain ⟨⟨y1, ly, ey⟩, -⟩ := S'.2.1 j hj
    have two : (2 : Int32) = nI 2 := rfl
    have i2 : U 9 i = 2 ↔ x1 = 2 := by rw [ex]; exact nI_eq (b := 2) (by omega) (by decide)
    have j2 : U 9 j = 2 ↔ y1 = 2 := by rw [ey]; exact nI_eq (b := 2) (by omega) (by decide)
    -- who won
    generalize hw0 : (if (U 9 i = 2 ↔ U 9 j = 2) then ((-5) : Int32) else if U 9 i = 2 then nI j else nI i) = w
    have t125 : ∀ lz : Int32, (lz = if w = nI i then nI j else nI i) → ∃ M' h', m_L_fights_125 (nI i) (nI j) w z lz M8 = some (1, M') ∧ M' 1 = T ∧ Hi M' h' ∧ Jk (M' 3) := by
      intro lz hlz
      have n5i : ¬ nI i = (-5) := nI_nem5 (by omega)
      have n5j : ¬ nI j = (-5) := nI_nem5 (by omega)
      have nij : ¬ nI j = nI i := fun q => hji (nI_inj (by omega) (by omega) q)
      unfold m_L_fights_125 m_L_fights_171
      by_cases q1 : U 9 i = 2
      · by_cases q2 : U 9 j = 2
        · obtain ⟨b1, b2⟩ := hJ2.1 q1 q2
          have ew : w = (-5) := by rw [← hw0, if_pos ⟨fun _ => q2, fun _ => q1⟩]
          rw [b1] at bI
          rw [b2] at bJ
          rw [ew, if_pos rfl, bI, bnd_s, if_pos rfl, bJ, bnd_s, if_pos rfl]
          exact fin
        · have b1 := hJ2.2.1 q1 q2
          have ew : w = nI j := by rw [← hw0, if_neg (fun v => q2 (v.mp q1)), if_pos q1]
          rw [b1] at bI
          have c2 : ¬ (2 : Int32) ≤ nI y1 := by
            have : y1 ≠ 2 := fun q => q2 (j2.mpr q)
            exact nI_ge (b := 2) (by omega) (by decide)
          rw [ew, if_neg nij] at hlz
          rw [ew, if_neg n5j, if_neg nij, if_pos rfl, hlz, kI, bnd_s, if_pos q1, bI, bnd_s, if_pos rfl, kJ, bnd_s, ey, if_neg c2]
          exact fin
      · by_cases q2 : U 9 j = 2
        · have b1 := hJ2.2.2 q2 q1
          have ew : w = nI i := by rw [← hw0, if_neg (fun v => q1 (v.mpr q2)), if_neg q1]
          rw [b1] at bJ
          have c2 : ¬ (2 : Int32) ≤ nI x1 := by
            have : x1 ≠ 2 := fun q => q1 (i2.mpr q)
            exact nI_ge (b := 2) (by omega) (by decide)
          rw [ew, if_pos rfl] at hlz
          rw [ew, if_neg n5i, if_pos rfl, hlz, kJ, bnd_s, if_pos q2, bJ, bnd_s, if_pos rfl, kI, bnd_s, ex, if_neg c2]
          exact fin
        · have ew : w = (-5) := by rw [← hw0, if_pos ⟨fun v => absurd v q1, fun v => absurd v q2⟩]
          rw [by5 i hi q1] at bI
          rw [by5 j hj q2] at bJ
          rw [ew, if_pos rfl, bI, bnd_s, if_pos rfl, bJ, bnd_s, if_pos rfl]
          exact fin
    have t71 : ∀ lz : Int32, (lz = if w = nI i then nI j else nI i) → ∃ M' h', m_L_fights_71 (nI i) (nI j) w z (nI s) (nI r) lz M8 = some (1, M') ∧ M' 1 = T ∧ Hi M' h' ∧ Jk (M' 3) := by
      intro lz hlz
      have c1 : ¬ nI r < 1 := nlt (b := 1) r1 (by omega)
      have c2 : ¬ (20 : Int32) < nI r := nlt (a := 20) r20 (by decide)
      unfold m_L_fights_71
      rw [if_neg c1, if_neg c2, c_6 I8, bnd_s, k3, S'.2.2.2, nI_add, if_pos rfl]
      by_cases h20 : r = 20
      · have c3 : nI r = 20 := by rw [h20]; rfl
        rw [if_pos c3]
        exact t125 lz hlz
      · have c3 : ¬ nI r = 20 := fun q => h20 (nI_inj (b := 20) (by omega) (by decide) q)
        have hne := r9 (by omega)
        have c4 : ¬ nI x1 + nI y1 ≤ 0 := by
          rw [nI_add]
          refine nI_nle ?_ (by omega)
          apply Nat.pos_of_ne_zero
          intro q
          apply hne
          have h1 : x1 = 0 := by omega
          have h2 : y1 = 0 := by omega
          rw [ex, ey, h1, h2]
          exact ⟨rfl, rfl⟩
        rw [if_neg c3, kI, bnd_s, kJ, bnd_s, ex, ey, if_neg c4]
        exact t125 lz hlz
    by_cases hw : w = nI i
    · rw [if_pos hw]
      exact t71 (nI j) (by rw [if_pos hw])
    · rw [if_neg hw]
      exact t71 (nI i) (by rw [if_neg hw])
  · have g := neg_lt (pE_err h0)
    have e9 : (uM M 99 (enc z)) 1 = T := (uM_ne _ _ _ (by decide)).trans e
    have I9 : Iv ((uM M 99 (enc z)) 1) n := by rw [e9]; exact hI
    have es : m_X5_bout (nI a) (nI b) (nI x) (uM M 99 (enc z)) = some (pE T n (nI a) (nI b) true, uM M 99 (enc z)) := by
      unfold m_X5_bout
      rw [e9, s_boutError hI, bnd_s, nm_u, uM_id e9, w1, if_neg h0]
    unfold m_L_fights m_X5_winner
    rw [e, s_boutError hI, bnd_s, nm_u, uM_id e, w1, if_neg h0, bnd_s, hP M e, bnd_s, nm_u, dec_enc, c_6 I9, bnd_s, es, bnd_s, if_neg g, if_pos rfl, hP _ e9, bnd_s, nm_u, dec_enc, lg_same, if_pos rfl, uM_uM]
    exact ⟨_, h, rfl, e9, hi_12 (uM_ne _ _ _ (by decide)) H, by rw [uM_ne _ _ _ (by decide)]; exact J⟩
theorem bst_neg {p : Nat} (hn : n ≤ 30) : bst T (nI p) n < 0 ↔ snd T n p = false := by
  unfold snd
  rcases bst_or T (nI p) n with q | ⟨j, hj, q, _⟩
  · rw [q]; decide
  · have h1 : ¬ nI j < 0 := nn0 (by omega)
    have h2 : ¬ nI j = (-5) := nI_nem5 (by omega)
    rw [q]
    simp [h1, h2]
theorem rd_l (hS : St T n s) (hs : s ≤ 100000) {z : Int64} (hP : PR T z) {x h : Nat} (hx : x < 65536) : ∀ (m p : Nat) (M : Mm), p ≤ 6 → 6 - p < m → M 1 = T → Hi M h → Jk (M 3) → ∃ M' h', m_L_rounds_4 m (nI x) (nI (cnt (snd T n) p)) (nI p) M = some (1, M') ∧ M' 1 = T ∧ Hi M' h' ∧ Jk (M' 3) := by
  have hI := hS.1
  have hn := iv_n hI
  intro m
  induction m with
  | zero => intro p M _ h; omega
  | succ m ih =>
    intro p M hp hm e H J
    have I1 : Iv (M 1) n := by rw [e]; exact hI
    rw [m_L_rounds_4.eq_2]
    by_cases h6 : p = 6
    · subst h6
      have e9 : (uM M 99 (enc z)) 1 = T := (uM_ne _ _ _ (by decide)).trans e
      have I9 : Iv ((uM M 99 (enc z)) 1) n := by rw [e9]; exact hI
      obtain ⟨M7, k1, k2, ⟨s', S', l1, l2⟩, k4, k5⟩ := A_round hS hx (uM M 99 (enc z)) h e9 (hi_12 (uM_ne _ _ _ (by decide)) H) (by rw [uM_ne _ _ _ (by decide)]; exact J)
      have l6 := cnt_le (snd T n) 6
      have ed : nI (cnt (snd T n) 6) / 2 = nI (cnt (snd T n) 6 / 2) := d_n (d := 2) (by omega) (by decide) (by decide)
      have lb : cnt (snd T n) 6 / 2 ≤ 3 := by omega
      generalize cnt (snd T n) 6 / 2 = b at *
      have e20 : (20 : Int32) * nI b = nI (20 * b) := pk_mul 20 b
      obtain ⟨Y, hY⟩ := L_hangs S' rfl
      rw [if_pos (by decide), hP M e, bnd_s, nm_u, dec_enc, c_6 I9, bnd_s, e9, hS.2.2.2, k1, bnd_s, g2, gd_t, ed, if_pos rfl, c_6 S'.1, bnd_s, S'.2.2.2, nI_add, if_neg (nlt l1 (by omega)), c_6 S'.1, bnd_s, S'.2.2.2, e20, nI_add, if_neg (nlt l2 (by omega)), hY, bnd_s, if_neg (by decide)]
      unfold m_L_rounds_105
      rw [if_neg (by decide)]
      exact back hS hP (hi_12 (uM_ne _ _ _ (by decide)) k4) (top_fr (uM_ne _ _ _ (by decide)) (fun q q1 q2 => uM_ne _ _ _ (by omega)) k5) (by rw [uM_ne _ _ _ (by decide)]; exact S'.2.2.1) (by rw [uM_ne _ _ _ (by decide)]; exact k2)
    · have hp6 : p < 6 := by omega
      have c : ¬ (6 : Int32) ≤ nI p := nI_ge (b := 6) (by omega) (by decide)
      have st := ih (p + 1) M (by omega) (by omega) e H J
      rw [cnt] at st
      rw [if_neg c, p_6 I1 hp6, bnd_s, e]
      unfold m_L_rounds_26
      have bn := bst_neg (T := T) (p := p) hn
      by_cases q : bst T (nI p) n < 0
      · rw [bn.mp q] at st
        simp only [if_false, Nat.add_zero, Bool.false_eq_true] at st
        have z0 : nI (cnt (snd T n) p) + 0 = nI (cnt (snd T n) p) := Int32.add_zero _
        rw [if_pos q, z0, nI_p1]
        exact st
      · have q' : snd T n p = true := by
          cases w : snd T n p with
          | true => rfl
          | false => exact absurd (bn.mpr w) q
        rw [q', if_pos rfl] at st
        rw [if_neg q, nI_p1, nI_p1]
        exact st
theorem L_rounds (hS : St T n s) (hs : s ≤ 100000) {M : Mm} {h : Nat} (e : M 1 = T) (H : Hi M h) (J : Jk (M 3)) {x : Nat} (hx : x < 65536) : ∃ M' h', m_L_rounds (nI x) M = some (1, M') ∧ M' 1 = T ∧ Hi M' h' ∧ Jk (M' 3) := by
  obtain ⟨z, hP⟩ := pr_all hS.1
  unfold m_L_rounds
  exact rd_l hS hs hP hx fu 0 M (by decide) (by unfold fu; omega) e H J
end FGT
