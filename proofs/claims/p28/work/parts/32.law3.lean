/-! the law's loop -/
section LAW3
variable {T : Tm} {n s : Nat}
set_option maxHeartbeats 1000000 in
theorem lw_291 (hS : St T n s) (hs : s ≤ 100000) (N : Nat) (xs : Nat → Int32) (κ : Int32 → Int32 → Mm → Option (Int32 × Mm)) {k h : Nat} (hk48 : k < 48) (x y : Int32) {M : Mm} (e : M 1 = T) (H : Hi M h) (J : Jk (M 3)) : ∃ M' h', m_L_law_291 N xs κ 1 (nI k) x y M = κ 1 (nI (k + 1)) M' ∧ M' 1 = T ∧ Hi M' h' ∧ Jk (M' 3) := by
  obtain ⟨X, hX⟩ := L_hangs hS e
  have e1 : (uM M 13 X) 1 = T := (uM_ne _ _ _ (by decide)).trans e
  obtain ⟨a1, la1, ea1⟩ := low_one (x >>> (5 &&& 31)) 9 (by decide) (by decide)
  obtain ⟨a2, la2, ea2⟩ := low_one (y >>> (4 &&& 31)) 9 (by decide) (by decide)
  obtain ⟨a3, la3, ea3⟩ := low_one (x >>> (9 &&& 31)) 9 (by decide) (by decide)
  obtain ⟨a4, la4, ea4⟩ := low_one (y >>> (6 &&& 31)) 9 (by decide) (by decide)
  obtain ⟨a5, la5, ea5⟩ := low_one (x >>> (7 &&& 31)) 9 (by decide) (by decide)
  obtain ⟨a6, la6, ea6⟩ := low_one (y >>> (2 &&& 31)) 65536 (by decide) (by decide)
  obtain ⟨a7, la7, ea7⟩ := low_one (x >>> (3 &&& 31)) 65536 (by decide) (by decide)
  have f1 : m_L_low (x >>> (5 &&& 31)) 9 M00 = some (nI a1, M00) := ea1 M00
  have f2 : m_L_low (y >>> (4 &&& 31)) 9 M00 = some (nI a2, M00) := ea2 M00
  have f3 : m_L_low (x >>> (9 &&& 31)) 9 M00 = some (nI a3, M00) := ea3 M00
  have f4 : m_L_low (y >>> (6 &&& 31)) 9 M00 = some (nI a4, M00) := ea4 M00
  have f5 : m_L_low (x >>> (7 &&& 31)) 9 M00 = some (nI a5, M00) := ea5 M00
  have f6 : m_L_low (y >>> (2 &&& 31)) 65536 M00 = some (nI a6, M00) := ea6 M00
  have f7 : m_L_low (x >>> (3 &&& 31)) 65536 M00 = some (nI a7, M00) := ea7 M00
  have e13 : (1 : Int32) + nI a3 = nI (1 + a3) := nI_add 1 a3
  obtain ⟨M2, h2, s1, s2, s3, s4⟩ := L_strikes hS e1 (hi_12 (uM_ne _ _ _ (by decide)) H) (by rw [uM_ne _ _ _ (by decide)]; exact J) (a := a1) (b := a2) (t := 1 + a3) (by omega) (by omega)
  obtain ⟨M3, h3, t1, t2, t3, t4⟩ := L_fights hS hs s2 s3 s4 (a := a4) (b := a5) la6
  unfold m_L_law_291 m_L_law_397 m_L_law_402
  rw [if_neg (by decide), hX, bnd_s, if_neg (by decide), f1, bnd_s, f2, bnd_s, f3, bnd_s, e13, s1, bnd_s, if_neg (by decide), f4, bnd_s, f5, bnd_s, f6, bnd_s, t1, bnd_s, if_neg (by decide), g5, gd_t]
  by_cases hc : 0 < nI k - nI k / 5 * 5
  · rw [if_pos hc, nI_p1]
    exact ⟨M3, h3, rfl, t2, t3, t4⟩
  · obtain ⟨M4, h4, u1, u2, u3, u4⟩ := L_rounds hS hs t2 t3 t4 la7
    rw [if_neg hc, f7, bnd_s, u1, bnd_s, if_neg (by decide), nI_p1]
    exact ⟨M4, h4, rfl, u2, u3, u4⟩
theorem hk_eq {h : Nat} (hh : h ≤ 5) : (h = 5 → hk h = 5) ∧ (h < 5 → hk h = h + 1) := by
  unfold hk
  exact ⟨fun e => by rw [if_neg (by omega)], fun e => by rw [if_pos e]⟩
set_option maxHeartbeats 4000000 in
/-- behind the action -/
theorem lw_144 (hS : St T n s) (hs : s ≤ 3000) (N : Nat) (xs : Nat → Int32) (κ : Int32 → Int32 → Mm → Option (Int32 × Mm)) {k h : Nat} (hk48 : k < 48) (x y : Int32) {f : Mm → Option (Int32 × Mm)} {r : Int32} {g bo : Bool} (hA : Act f T r g (Nx n s)) (hR : RB bo r g) (hf : 8 ≤ k → f = m_L_act x y) {z : Int64} (hP : PR T z) {M : Mm} (e : M 1 = T) (H : Hi M h) (J : Jk (M 3)) : ∃ M' n' s' h', (bnd (f M) fun r2 M3 => m_L_law_144 N xs κ (nI k) x y (nI h) z (if bo then 1 else 0) r2 M3) = κ 1 (nI (k + 1)) M' ∧ St (M' 1) n' s' ∧ s' ≤ s + 60 ∧ Hi M' h' ∧ Jk (M' 3) := by
  have hh := hi_le H
  have hI := hS.1
  obtain ⟨M1, a1, a2, a3⟩ := hA M h e H J
  rw [a1, bnd_s]
  unfold m_L_law_144
  cases g with
  | false =>
    have hr : r = (-1) ∨ r = (-2) ∨ r = (-3) ∨ r = (-4) := by
      rcases hR with w | ⟨_, w, _⟩
      · exact w
      · cases w
    obtain ⟨b1, b2⟩ := a3
    have n5 : ¬ r = (-5) := by rcases hr with rfl | rfl | rfl | rfl <;> decide
    have H1 : Hi M1 h := hi_12 b2 H
    obtain ⟨M', h', c1, c2, c3, c4⟩ := lw_291 hS (by omega) N xs κ hk48 x y (M := uM M1 99 (enc z)) ((uM_ne _ _ _ (by decide)).trans b1) (hi_12 (uM_ne _ _ _ (by decide)) H1) (by rw [uM_ne _ _ _ (by decide)]; exact a2)
    have t163 : m_L_law_163 N xs κ (nI k) x y (nI h) z M1 = κ 1 (nI (k + 1)) M' := by
      unfold m_L_law_163 m_L_law_189
      rw [c_10, bnd_s, hi_c H1, if_pos rfl, hP M1 b1, bnd_s, nm_u, dec_enc, lg_same, if_pos rfl]
      exact c1
    refine ⟨M', n, s, h', ?_, by rw [c2]; exact hS, by omega, c3, c4⟩
    rw [if_neg (neg_lt hr)]
    cases bo with
    | false =>
      have q : ((if false = true then 1 else 0 : Int32)) = 0 := rfl
      rw [q, if_pos rfl]
      exact t163
    | true =>
      have q : ((if true = true then 1 else 0 : Int32)) = 1 := rfl
      rw [q, if_neg (by decide), if_neg n5]
      exact t163
  | true =>
    obtain ⟨⟨n1, s1, hS1, ls1⟩, b2, b3⟩ := a3
    obtain ⟨M', h', c1, c2, c3, c4⟩ := lw_291 hS1 (by omega) N xs κ hk48 x y (M := M1) rfl b2 a2
    obtain ⟨k1, k2⟩ := hk_eq hh
    -- on from the comparison of how many are held
    have t221 : ∃ M' n' s' h', m_L_law_221 N xs κ (nI k) x y (nI h) z r 1 M1 = κ 1 (nI (k + 1)) M' ∧ St (M' 1) n' s' ∧ s' ≤ s + 60 ∧ Hi M' h' ∧ Jk (M' 3) := by
      unfold m_L_law_221
      rw [if_neg (by decide)]
      by_cases h7 : k ≤ 7
      · rw [if_pos (show nI k ≤ 7 from nI_le (b := 7) h7 (by decide))]
        exact ⟨M', n1, s1, h', c1, by rw [c2]; exact hS1, by omega, c3, c4⟩
      · have c7 : ¬ nI k ≤ 7 := nI_ge (a := 7) (by omega) (by omega)
        obtain ⟨u, lu, eu⟩ := low_one (y >>> (5 &&& 31)) 4 (by decide) (by decide)
        have fu4 : m_L_low (y >>> (5 &&& 31)) 4 M00 = some (nI u, M00) := eu M00
        rw [if_neg c7, fu4, bnd_s]
        by_cases hu : u = 0
        · have cu : nI u = 0 := by rw [hu]; rfl
          obtain ⟨d1, M2, d2, d3, d4, d5⟩ := m_undo b2 b3 hS.2.2.1 hS1.2.2.1
          have e9 : (uM M2 99 (enc z)) 1 = T := (uM_ne _ _ _ (by decide)).trans d3
          obtain ⟨M5, f1, f2, ⟨n5, s5, hS5, ls5⟩, f4, f5⟩ := hA (uM M2 99 (enc z)) (hk h - 1) e9 (hi_12 (uM_ne _ _ _ (by decide)) d4) (by rw [uM_ne _ _ _ (by decide), d5 3 (by decide) (by decide)]; exact a2)
          obtain ⟨M6, h6, g1, g2', g3, g4'⟩ := lw_291 hS5 (by omega) N xs κ hk48 x y (M := M5) rfl f4 f2
          have hfa := hf (by omega)
          rw [hfa] at f1
          have t259 : m_L_law_259 N xs κ (nI k) x y z r (nI (hk h - 1)) (nI (hk h - 1)) M2 = κ 1 (nI (k + 1)) M6 := by
            unfold m_L_law_259 m_L_law_290
            rw [if_pos rfl, hP M2 d3, bnd_s, nm_u, dec_enc, lg_same, if_pos rfl, f1, bnd_s, if_pos rfl]
            exact g1
          refine ⟨M6, n5, s5, h6, ?_, by rw [g2']; exact hS5, by omega, g3, g4'⟩
          rw [if_pos cu, d2, bnd_s]
          by_cases h5 : h = 5
          · have c5 : (5 : Int32) ≤ nI h := by rw [h5]; decide
            have q : hk h - 1 = 4 := by rw [k1 h5]
            rw [if_pos c5]
            rw [q] at t259 ⊢
            exact t259
          · have c5 : ¬ (5 : Int32) ≤ nI h := nI_ge (b := 5) (by omega) (by decide)
            have q : hk h - 1 = h := by rw [k2 (by omega)]; omega
            rw [if_neg c5]
            rw [q] at t259 ⊢
            exact t259
        · have cu : ¬ nI u = 0 := nI_ne0 (by omega) (by omega)
          rw [if_neg cu]
          exact ⟨M', n1, s1, h', c1, by rw [c2]; exact hS1, by omega, c3, c4⟩
    have t193 : ∃ M' n' s' h', m_L_law_193 N xs κ (nI k) x y (nI h) z r M1 = κ 1 (nI (k + 1)) M' ∧ St (M' 1) n' s' ∧ s' ≤ s + 60 ∧ Hi M' h' ∧ Jk (M' 3) := by
      unfold m_L_law_193 m_L_law_213
      rw [c_10, bnd_s, hi_c b2]
      by_cases h5 : h = 5
      · have c5 : (5 : Int32) ≤ nI h := by rw [h5]; decide
        have q : nI (hk h) = 5 := by rw [k1 h5]; rfl
        rw [if_pos c5, if_pos q]
        exact t221
      · have c5 : ¬ (5 : Int32) ≤ nI h := nI_ge (b := 5) (by omega) (by decide)
        have q : nI (hk h) = nI h + 1 := by rw [k2 (by omega), nI_p1]
        rw [if_neg c5, if_pos q]
        exact t221
    rcases hR with w | ⟨w1, _, w2⟩
    · have w' : 0 ≤ r := w
      rw [if_pos w']
      exact t193
    · rw [w2] at t193 ⊢
      rw [if_neg (by decide), w1]
      have q : ((if true = true then 1 else 0 : Int32)) = 1 := rfl
      rw [q, if_neg (by decide), if_pos rfl]
      exact t193
set_option maxHeartbeats 1000000 in
theorem lw_31 (N : Nat) (xs : Nat → Int32) : ∀ (m k n s h : Nat) (M : Mm), k ≤ 48 → 48 - k < m → St (M 1) n s → s ≤ 60 * k → Hi M h → Jk (M 3) → ∃ M', m_L_law_31 N xs m 1 (nI k) M = some (1, M') := by
  intro m
  induction m with
  | zero => intro k n s h M _ h; omega
  | succ m ih =>
    intro k n s h M hk hm hS hs H J
    rw [m_L_law_31.eq_2]
    unfold m_L_law_409
    by_cases h48 : k = 48
    · subst h48
      rw [if_pos (by decide), nb_z1, gd_t]
      exact ⟨M, rfl⟩
    · have c48 : ¬ (48 : Int32) ≤ nI k := nI_ge (b := 48) (by omega) (by decide)
      have hI := hS.1
      obtain ⟨z, hP⟩ := pr_all hI
      have e2 : (2 : Int32) * nI k = nI (2 * k) := pk_mul 2 k
      have p0 : decide ((0 : Int32) ≤ nI (2 * k)) = true := decide_eq_true (nI_pos' (by omega))
      have p1 : decide ((0 : Int32) ≤ nI (2 * k + 1)) = true := decide_eq_true (nI_pos' (by omega))
      have e9 : (uM M 99 (enc z)) 1 = M 1 := uM_ne _ _ _ (by decide)
      have H9 : Hi (uM M 99 (enc z)) h := hi_12 (uM_ne _ _ _ (by decide)) H
      have J9 : Jk ((uM M 99 (enc z)) 3) := by rw [uM_ne _ _ _ (by decide)]; exact J
      rw [if_neg c48, if_neg (by decide), e2, p0, gd_t, nm_u, nI_p1, p1, gd_t, nm_u, c_10, bnd_s, hi_c H, hP M rfl, bnd_s, nm_u, dec_enc]
      generalize cellV N xs (nI (2 * k)) = x
      generalize cellV N xs (nI (2 * k + 1)) = y
      have done : (∃ M' n' s' h', (if nI k ≤ 7 then m_L_law_108 N xs (m_L_law_31 N xs m) (nI k) x y (nI h) z (uM M 99 (enc z)) else bnd (m_L_low x 17 M00) fun r10 _ => if r10 = 3 then m_L_law_104 N xs (m_L_law_31 N xs m) (nI k) x y (nI h) z (uM M 99 (enc z)) else bnd (m_L_low x 17 M00) fun r12 _ => if r12 = 8 then m_L_law_104 N xs (m_L_law_31 N xs m) (nI k) x y (nI h) z (uM M 99 (enc z)) else m_L_law_108 N xs (m_L_law_31 N xs m) (nI k) x y (nI h) z (uM M 99 (enc z))) = m_L_law_31 N xs m 1 (nI (k + 1)) M' ∧ St (M' 1) n' s' ∧ s' ≤ s + 60 ∧ Hi M' h' ∧ Jk (M' 3)) → ∃ M', (if nI k ≤ 7 then m_L_law_108 N xs (m_L_law_31 N xs m) (nI k) x y (nI h) z (uM M 99 (enc z)) else bnd (m_L_low x 17 M00) fun r10 _ => if r10 = 3 then m_L_law_104 N xs (m_L_law_31 N xs m) (nI k) x y (nI h) z (uM M 99 (enc z)) else bnd (m_L_low x 17 M00) fun r12 _ => if r12 = 8 then m_L_law_104 N xs (m_L_law_31 N xs m) (nI k) x y (nI h) z (uM M 99 (enc z)) else m_L_law_108 N xs (m_L_law_31 N xs m) (nI k) x y (nI h) z (uM M 99 (enc z))) = some (1, M') := by
        intro ⟨M', n', s', h', q1, q2, q3, q4, q5⟩
        obtain ⟨M'', w⟩ := ih (k + 1) n' s' h' M' (by omega) (by omega) q2 (by omega) q4 q5
        exact ⟨M'', q1.trans w⟩
      refine done ?_
      by_cases h7 : k ≤ 7
      · have c8 : ¬ (8 : Int32) ≤ nI k := nI_ge (b := 8) (by omega) (by decide)
        rw [if_pos (show nI k ≤ 7 from nI_le (b := 7) h7 (by decide))]
        unfold m_L_law_108 m_L_law_109
        obtain ⟨b9, hb9, eb9⟩ := low_one y 9 (by decide) (by decide)
        have f9 : m_L_low y 9 M00 = some (nI b9, M00) := eb9 M00
        obtain ⟨r, g, hA, hR⟩ := A_thread hS (nI k - nI k / 4 * 4) (1 + nI b9)
        rw [if_neg c8, g4, gd_t, f9, bnd_s]
        exact lw_144 hS (by omega) N xs (m_L_law_31 N xs m) (by omega) x y (bo := false) hA (Or.inl hR) (fun w => by omega) hP e9 H9 J9
      · have c7 : ¬ nI k ≤ 7 := nI_ge (a := 7) (by omega) (by omega)
        have c8 : (8 : Int32) ≤ nI k := nI_le (a := 8) (by omega) (by omega)
        obtain ⟨q, hq, eq⟩ := low_one x 17 (by decide) (by decide)
        have fq : m_L_low x 17 M00 = some (nI q, M00) := eq M00
        obtain ⟨r, g, hA, hR⟩ := A_act hS x y hq eq
        have go : ∃ M' n' s' h', (bnd (m_L_act x y (uM M 99 (enc z))) fun r2 M3 => m_L_law_144 N xs (m_L_law_31 N xs m) (nI k) x y (nI h) z (if decide (q = 3 ∨ q = 8) then 1 else 0) r2 M3) = m_L_law_31 N xs m 1 (nI (k + 1)) M' ∧ St (M' 1) n' s' ∧ s' ≤ s + 60 ∧ Hi M' h' ∧ Jk (M' 3) :=
          lw_144 hS (by omega) N xs (m_L_law_31 N xs m) (by omega) x y hA hR (fun _ => rfl) hP e9 H9 J9
        rw [if_neg c7, fq, bnd_s]
        unfold m_L_law_104 m_L_law_108 m_L_law_109
        by_cases q3 : q = 3
        · have cq : nI q = 3 := by rw [q3]; rfl
          have d : decide (q = 3 ∨ q = 8) = true := decide_eq_true (Or.inl q3)
          rw [d] at go
          rw [if_pos cq, if_pos c8]
          exact go
        · have cq : ¬ nI q = 3 := fun w => q3 (nI_inj (b := 3) (by omega) (by decide) w)
          rw [if_neg cq, bnd_s]
          by_cases q8 : q = 8
          · have cq8 : nI q = 8 := by rw [q8]; rfl
            have d : decide (q = 3 ∨ q = 8) = true := decide_eq_true (Or.inr q8)
            rw [d] at go
            rw [if_pos cq8, if_pos c8]
            exact go
          · have cq8 : ¬ nI q = 8 := fun w => q8 (nI_inj (b := 8) (by omega) (by decide) w)
            have d : decide (q = 3 ∨ q = 8) = false := decide_eq_false (fun w => w.elim q3 q8)
            rw [d] at go
            rw [if_neg cq8, if_pos c8]
            exact go
/-- the law is true -/
theorem lw_true (N : Nat) (xs : Nat → Int32) {M : Mm} (hS : St (M 1) n 0) {h : Nat} (H : Hi M h) (J : Jk (M 3)) : ∃ M', m_L_law_8 N xs M = some (1, M') := by
  obtain ⟨X, hX⟩ := L_hangs hS rfl
  have e1 : (uM M 13 X) 1 = M 1 := uM_ne _ _ _ (by decide)
  obtain ⟨M2, h2, s1, s2, s3, s4⟩ := L_rounds hS (by omega) e1 (hi_12 (uM_ne _ _ _ (by decide)) H) (by rw [uM_ne _ _ _ (by decide)]; exact J) (x := 5) (by decide)
  have s1' : m_L_rounds 5 (uM M 13 X) = some (1, M2) := s1
  unfold m_L_law_8 m_L_law_28
  rw [hX, bnd_s, if_neg (by decide), s1', bnd_s, if_neg (by decide)]
  exact lw_31 N xs fu 0 n 0 h2 M2 (by decide) (by unfold fu; omega) (by rw [s2]; exact hS) (by omega) s3 s4
end LAW3
