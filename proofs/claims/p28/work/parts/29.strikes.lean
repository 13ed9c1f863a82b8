/-! strikes: a strike does what was told, and undo takes it back -/
theorem uM_id {M : Mm} {T : Tm} (e : M 1 = T) : uM M 1 T = M := by rw [← e, uM_self]
section STR
variable {T : Tm} {n s : Nat}
theorem s_try (hS : St T n s) {M : Mm} (e : M 1 = T) (J : Jk (M 3)) {i j : Nat} (hi : i < n) (hj : j < n) (hij : i ≠ j) (h9i : T 9 i = 0) (h9j : T 9 j = 0) (w : Int32) : m_X5_tryHit (nI i) (nI j) w M = some (hitR T i j w, uM M 3 (hitT T i j w)) := by
  unfold m_X5_tryHit
  rw [s_copyFrom (by decide), bnd_s, e, cp_self J hS.2.2.1, uM_same, s_hit hS.1 hi hj hij h9i h9j w, bnd_s, nm_u, uM_uM]
theorem s_least (hS : St T n s) {i j : Nat} (hi : i < n) (hj : j < n) (hij : i ≠ j) (h9i : T 9 i = 0) (h9j : T 9 j = 0) : ∀ (m k : Nat) (M : Mm), k ≤ 10 → 10 - k < m → M 1 = T → Jk (M 3) → ∃ (r : Int32) (X : Tm), m_X5_leastSwing_20 m (nI i) (nI j) (nI k) M = some (r, uM M 3 X) ∧ Jk X ∧ ∀ t, k ≤ t → t ≤ 9 → hitR T i j (nI t) &&& 3 = 2 → ∃ u, k ≤ u ∧ u ≤ t ∧ r = nI u := by
  have hn := iv_n hS.1
  intro m
  induction m with
  | zero => intro k M _ h; omega
  | succ m ih =>
    intro k M hk hm e J
    rw [m_X5_leastSwing_20.eq_2]
    by_cases h9 : k = 10
    · subst h9
      have c : (9 : Int32) < nI 10 := by decide
      rw [if_pos c]
      exact ⟨_, M 3, by rw [uM_self], J, fun t h1 h2 => by omega⟩
    · have c : ¬ (9 : Int32) < nI k := nlt (a := 9) (by omega) (by decide)
      have J2 : Jk (hitT T i j (nI k)) := jk_hit hS.2.2.1 (by omega) (by omega) _
      rw [if_neg c, s_try hS e J hi hj hij h9i h9j, bnd_s]
      by_cases h2 : hitR T i j (nI k) &&& 3 = 2
      · rw [if_pos h2]
        exact ⟨_, _, rfl, J2, fun t h1 _ _ => ⟨k, Nat.le_refl _, h1, rfl⟩⟩
      · rw [if_neg h2, nI_p1]
        obtain ⟨r, X, e1, e2, e3⟩ := ih (k + 1) (uM M 3 (hitT T i j (nI k))) (by omega) (by omega) (by rw [uM_ne _ _ _ (by decide)]; exact e) (by rw [uM_same]; exact J2)
        rw [uM_uM] at e1
        refine ⟨r, X, e1, e2, fun t h1 h3 h4 => ?_⟩
        have hne : k ≠ t := fun q => h2 (by rw [q]; exact h4)
        obtain ⟨u, u1, u2, u3⟩ := e3 t (by omega) h3 h4
        exact ⟨u, by omega, u2, u3⟩
def oc (x y : Nat) : Nat := (if x = 2 then 1 else if x = 1 then 4 else 0) + (if y = 2 then 2 else if y = 1 then 8 else 0)
set_option maxHeartbeats 2000000 in
/-- what a strike tells and what becomes of the two -/
theorem hit_told (hS : St T n s) {i j t : Nat} (hi : i < n) (hj : j < n) (hij : i ≠ j) (h9i : T 9 i = 0) (h9j : T 9 j = 0) : ∃ x y, x ≤ 2 ∧ y ≤ 2 ∧ hitT T i j (nI t) 9 i = nI x ∧ hitT T i j (nI t) 9 j = nI y ∧ hitR T i j (nI t) = nI (oc x y) ∧ (x = 2 ↔ hca T i j (nI t) = 100) ∧ (y = 2 ↔ hcb T i j (nI t) = 100) := by
  have hji : j ≠ i := fun e => hij e.symm
  have f9i : hitT T i j (nI t) 9 i = if hca T i j (nI t) = 100 then 2 else if hwa T i (nI t) = 20 then 1 else 0 := by simp [hitT]
  have f9j : hitT T i j (nI t) 9 j = if hcb T i j (nI t) = 100 then 2 else if hwb T j = 20 then 1 else 0 := by simp [hitT, hji]
  refine ⟨if hca T i j (nI t) = 100 then 2 else if hwa T i (nI t) = 20 then 1 else 0, if hcb T i j (nI t) = 100 then 2 else if hwb T j = 20 then 1 else 0, ?_, ?_, ?_, ?_, ?_, ?_, ?_⟩
  · split
    · decide
    · split <;> decide
  · split
    · decide
    · split <;> decide
  · rw [f9i]
    split
    · rfl
    · split <;> rfl
  · rw [f9j]
    split
    · rfl
    · split <;> rfl
  · unfold hitR
    by_cases h1 : hca T i j (nI t) = 100 <;> by_cases h2 : hwa T i (nI t) = 20 <;> by_cases h3 : hcb T i j (nI t) = 100 <;> by_cases h4 : hwb T j = 20
    all_goals simp only [h1, h2, h3, h4, if_true, if_false]
    all_goals decide
  · by_cases h1 : hca T i j (nI t) = 100
    · simp [h1]
    · by_cases h2 : hwa T i (nI t) = 20 <;> simp [h1, h2]
  · by_cases h1 : hcb T i j (nI t) = 100
    · simp [h1]
    · by_cases h2 : hwb T j = 20 <;> simp [h1, h2]
/-- the victories that are there -/
theorem vic_sum (h : Iv T n) : ∃ V lo : Nat, bx_sum (vf T true (-1)) n = nI V ∧ T 0 11 = nI lo ∧ V + lo = cnt (nby T) n ∧ V ≤ 30 ∧ lo ≤ 30 := by
  obtain ⟨v, lo, h1, h2, h3⟩ := iv_v h
  have hn := iv_n h
  have hc := cnt_le (nby T) n
  exact ⟨sm v n, lo, bx_sm T n h1, h2, h3, by omega, by omega⟩
theorem vic_hit (hS : St T n s) {i j t : Nat} (hi : i < n) (hj : j < n) (hij : i ≠ j) (ho : T 3 i ≠ T 3 j) (h9i : T 9 i = 0) (h9j : T 9 j = 0) (ht : t ≤ 9) : ∃ V V' : Nat, V ≤ 30 ∧ V' ≤ 30 ∧ bx_sum (vf T true (-1)) n = nI V ∧ bx_sum (vf (hitT T i j (nI t)) true (-1)) n = nI V' ∧ (¬ hca T i j (nI t) = 100 → ¬ hcb T i j (nI t) = 100 → V' = V) ∧ (hca T i j (nI t) = 100 → hcb T i j (nI t) = 100 → V' ≤ V) ∧ (¬ (hca T i j (nI t) = 100 ↔ hcb T i j (nI t) = 100) → V' = V + 1) := by
  obtain ⟨V, lo, e1, e2, e3, e4, e5⟩ := vic_sum hS.1
  obtain ⟨V', lo', f1, f2, f3, f4, f5⟩ := vic_sum (st_hit hS hi hj hij ho h9i h9j ht).1
  have hc := hit_cnt hS.1 hi hj hij h9i h9j (nI t)
  have h11 := hit_011 T i j (nI t)
  rw [f2, e2] at h11
  obtain ⟨va, la, ea⟩ := iv_vle hS.1 hi
  obtain ⟨vb, lb, eb⟩ := iv_vle hS.1 hj
  refine ⟨V, V', e4, f4, e1, f1, fun a b => ?_, fun a b => ?_, fun q => ?_⟩
  · rw [if_neg (fun z => a z.1)] at h11
    rw [if_pos ⟨fun z => absurd z a, fun z => absurd z b⟩] at hc
    have := nI_inj (by omega) (by omega) h11
    omega
  · rw [if_pos ⟨a, b⟩, ea, eb, nI_add, nI_add] at h11
    rw [if_pos ⟨fun _ => b, fun _ => a⟩] at hc
    have := nI_inj (by omega) (by omega) h11
    omega
  · rw [if_neg (fun z => q ⟨fun _ => z.2, fun _ => z.1⟩)] at h11
    rw [if_neg q] at hc
    have := nI_inj (by omega) (by omega) h11
    omega
/-- the end of the three: undo, and the print is what it was -/
theorem back {M : Mm} {h : Nat} {z : Int64} (hS : St T n s) (hP : PR T z) (H : Hi M h) (hT : Top M T) (J1 : Jk (M 1)) (J3 : Jk (M 3)) : ∃ M' h', (bnd (m_X5_undo M) fun r2 M3 => if r2 < 0 then some (0, M3) else bnd (m_L_print M3) fun _ M6 => nm (dec M6) fun r5 => if (lg_cmp r5 z) = 0 then some (1, M6) else some (0, M6)) = some ((1 : Int32), M') ∧ M' 1 = T ∧ Hi M' h' ∧ Jk (M' 3) := by
  obtain ⟨h1, M2, a, b, c, d⟩ := m_undo H hT hS.2.2.1 J1
  have hh := hi_le H
  refine ⟨uM M2 99 (enc z), h - 1, ?_, ?_, ?_, ?_⟩
  · rw [a, bnd_s, if_neg (nn0 (by omega)), hP M2 b, bnd_s, nm_u, dec_enc, lg_same, if_pos rfl]
  · rw [uM_ne _ _ _ (by decide)]; exact b
  · exact hi_12 (uM_ne _ _ _ (by decide)) c
  · rw [uM_ne _ _ _ (by decide), d 3 (by decide) (by decide)]; exact J3
theorem neg_lt {r : Int32} (h : r = (-1) ∨ r = (-2) ∨ r = (-3) ∨ r = (-4)) : ¬ 0 ≤ r := by
  rcases h with rfl | rfl | rfl | rfl <;> decide
set_option maxHeartbeats 8000000 in
/-- strikes is true, and leaves the state as it was -/
theorem L_strikes (hS : St T n s) {M : Mm} {h : Nat} (e : M 1 = T) (H : Hi M h) (J : Jk (M 3)) {a b t : Nat} (ht1 : 1 ≤ t) (ht : t ≤ 9) : ∃ M' h', m_L_strikes (nI a) (nI b) (nI t) M = some (1, M') ∧ M' 1 = T ∧ Hi M' h' ∧ Jk (M' 3) := by
  have hI := hS.1
  have hn := iv_n hI
  obtain ⟨z, hP⟩ := pr_all hI
  have w1 : wi (nI t) 1 9 = true := by
    unfold wi
    have c1 : (1 : Int32) ≤ nI t := nI_le (a := 1) ht1 (by omega)
    have c2 : nI t ≤ 9 := nI_le (b := 9) ht (by decide)
    simp [c1, c2]
  have w2 : wi 1 1 9 = true := by decide
  unfold m_L_strikes m_X5_ifStruck m_X5_leastSwing
  by_cases h0 : pE T n (nI a) (nI b) true = 0
  · obtain ⟨i, j, hi, hj, ea, eb, -, hij, ho, h9i, h9j⟩ := pE_0 hn h0
    rw [ea, eb] at h0 ⊢
    clear ea eb
    -- the two that only ask
    have M2 := s_try hS e J hi hj hij h9i h9j (nI t)
    have J2 : Jk (hitT T i j (nI t)) := jk_hit hS.2.2.1 (by omega) (by omega) _
    have e2 : (uM M 3 (hitT T i j (nI t))) 1 = T := (uM_ne _ _ _ (by decide)).trans e
    obtain ⟨ls, X, l1, l2, l3⟩ := s_least hS hi hj hij h9i h9j fu 1 (uM M 3 (hitT T i j (nI t))) (by decide) (by unfold fu; omega) e2 (by rw [uM_same]; exact J2)
    rw [uM_uM] at l1
    have l1' : m_X5_leastSwing_20 fu (nI i) (nI j) 1 (uM M 3 (hitT T i j (nI t))) = some (ls, uM M 3 X) := l1
    rw [e, s_strikeError hI, bnd_s, nm_u, uM_id e, w1, if_pos h0, M2, bnd_s, bnd_s, e2, s_strikeError hI, bnd_s, nm_u, uM_id e2, w2, if_pos h0, l1', bnd_s]
    have e3 : (uM M 3 X) 1 = T := (uM_ne _ _ _ (by decide)).trans e
    have e4 : (uM (uM M 3 X) 99 (enc z)) 1 = T := (uM_ne _ _ _ (by decide)).trans e3
    have I4 : Iv ((uM (uM M 3 X) 99 (enc z)) 1) n := by rw [e4]; exact hI
    obtain ⟨V, V', lV, lV', v1, v2, v3, v4, v5⟩ := vic_hit hS hi hj hij ho h9i h9j ht
    rw [hP _ e3, bnd_s, nm_u, dec_enc, c_6 I4, bnd_s, c_4 I4, bnd_s, e4, v1, hS.2.2.2]
    -- the strike
    have A := A_hit hS hi hj hij ho h9i h9j (t := t) (by rw [w1]; exact h0)
    obtain ⟨M12, k1, k2, k3, k4, k5⟩ := A (uM (uM M 3 X) 99 (enc z)) h e4 (hi_12 (by rw [uM_ne _ _ _ (by decide), uM_ne _ _ _ (by decide)]) H) (by rw [uM_ne _ _ _ (by decide), uM_same]; exact l2)
    have S' := st_hit hS hi hj hij ho h9i h9j ht
    have hJ2 := J2_hit hI hi hj hij h9i h9j (nI t)
    obtain ⟨x, y, lx, ly, t1, t2, t3, t4, t5⟩ := hit_told hS hi hj hij h9i h9j (t := t)
    have lc := l3 t ht1 ht
    generalize hitT T i j (nI t) = T' at *
    have I' : Iv (M12 1) n := by rw [k3]; exact S'.1
    have st12 : T' 0 12 = nI (s + 1) := S'.2.2.2
    have oc12 : oc x y ≤ 12 := by unfold oc; split <;> split <;> (try split) <;> (try split) <;> omega
    -- the end
    have fin : ∃ M' h', m_L_strikes_358 z M12 = some (1, M') ∧ M' 1 = T ∧ Hi M' h' ∧ Jk (M' 3) := by
      obtain ⟨Y, hY⟩ := L_conkers S' k3
      unfold m_L_strikes_358 m_L_strikes_370
      rw [hY, bnd_s, if_neg (by decide), if_neg (by decide)]
      exact back hS hP (hi_12 (uM_ne _ _ _ (by decide)) k4) (top_fr (uM_ne _ _ _ (by decide)) (fun q q1 q2 => uM_ne _ _ _ (by omega)) k5) (by rw [uM_ne _ _ _ (by decide), k3]; exact S'.2.2.1) (by rw [uM_ne _ _ _ (by decide)]; exact k2)
    have ca : ∀ u, nI s + 1 = nI u ↔ nI (s + 1) = nI u := fun u => by rw [nI_p1]
    have kI := k_6 I' hi
    have kJ := k_6 I' hj
    have bI := k_7 I' hi
    have bJ := k_7 I' hj
    have cV := c_4 I'
    rw [k3, t1] at kI
    rw [k3, t2] at kJ
    rw [k3] at bI bJ
    rw [k3, v2] at cV
    rw [k1, bnd_s, t3, if_pos (nI_pos' (by omega)), if_pos rfl, c_6 I', bnd_s, k3, st12, nI_p1, if_pos rfl, kI, bnd_s]
    have hx : x = 0 ∨ x = 1 ∨ x = 2 := by omega
    have hy : y = 0 ∨ y = 1 ∨ y = 2 := by omega
    have n12 : ¬ ((1 : Int32) = 2) := by decide
    have n02 : ¬ ((0 : Int32) = 2) := by decide
    -- what is common: the tests of the told bits
    have t118 : (∃ M' h', m_L_strikes_300 (nI i) (nI j) (nI t) ls z (nI (oc x y)) M12 = some (1, M') ∧ M' 1 = T ∧ Hi M' h' ∧ Jk (M' 3)) → ∃ M' h', (if nI x = 2 then m_L_strikes_118 (nI i) (nI j) (nI t) ls z (nI V) (nI (oc x y)) 1 M12 else m_L_strikes_118 (nI i) (nI j) (nI t) ls z (nI V) (nI (oc x y)) 0 M12) = some (1, M') ∧ M' 1 = T ∧ Hi M' h' ∧ Jk (M' 3) := by
      intro hfin
      have r4 : nI (V + 1) = nI V + 1 := (nI_p1 V).symm
      rcases hx with rfl | rfl | rfl <;> rcases hy with rfl | rfl | rfl
      · have q := v3 (fun w => absurd (t4.mpr w) (by decide)) (fun w => absurd (t5.mpr w) (by decide))
        subst q
        unfold m_L_strikes_118 m_L_strikes_131 m_L_strikes_150 m_L_strikes_165 m_L_strikes_184 m_L_strikes_199 m_L_strikes_218 m_L_strikes_232 m_L_strikes_240
        rw [if_neg (by decide), g2, gd_t, if_neg (by decide), if_pos rfl, kJ, bnd_s, if_neg (by decide), gd_t, gd_t, if_neg (by decide), if_pos rfl, kI, bnd_s, if_neg (by decide), g4, gd_t, gd_t, if_neg (by decide), if_pos rfl, kJ, bnd_s, if_neg (by decide), g8, gd_t, if_neg (by decide), if_pos rfl, if_neg (by decide), gd_t, if_pos (by decide), cV, bnd_s, if_pos rfl]
        exact hfin
      · have q := v3 (fun w => absurd (t4.mpr w) (by decide)) (fun w => absurd (t5.mpr w) (by decide))
        subst q
        unfold m_L_strikes_118 m_L_strikes_131 m_L_strikes_150 m_L_strikes_165 m_L_strikes_184 m_L_strikes_199 m_L_strikes_218 m_L_strikes_232 m_L_strikes_240
        rw [if_neg (by decide), g2, gd_t, if_neg (by decide), if_pos rfl, kJ, bnd_s, if_neg (by decide), gd_t, gd_t, if_neg (by decide), if_pos rfl, kI, bnd_s, if_neg (by decide), g4, gd_t, gd_t, if_neg (by decide), if_pos rfl, kJ, bnd_s, if_pos (by decide), g8, gd_t, if_pos (by decide), if_pos rfl, if_neg (by decide), gd_t, if_pos (by decide), cV, bnd_s, if_pos rfl]
        exact hfin
      · have q := v5 (fun w => absurd (t4.mpr (w.mpr (t5.mp rfl))) (by decide))
        subst q
        unfold m_L_strikes_118 m_L_strikes_131 m_L_strikes_150 m_L_strikes_165 m_L_strikes_184 m_L_strikes_199 m_L_strikes_218 m_L_strikes_232 m_L_strikes_240
        rw [if_neg (by decide), g2, gd_t, if_neg (by decide), if_pos rfl, kJ, bnd_s, if_pos (by decide), gd_t, gd_t, if_pos (by decide), if_pos rfl, kI, bnd_s, if_neg (by decide), g4, gd_t, gd_t, if_neg (by decide), if_pos rfl, kJ, bnd_s, if_neg (by decide), g8, gd_t, if_neg (by decide), if_pos rfl, if_neg (by decide), gd_t, if_neg (by decide), gd_t, if_neg (by decide), cV, bnd_s, if_pos r4]
        exact hfin
      · have q := v3 (fun w => absurd (t4.mpr w) (by decide)) (fun w => absurd (t5.mpr w) (by decide))
        subst q
        unfold m_L_strikes_118 m_L_strikes_131 m_L_strikes_150 m_L_strikes_165 m_L_strikes_184 m_L_strikes_199 m_L_strikes_218 m_L_strikes_232 m_L_strikes_240
        rw [if_neg (by decide), g2, gd_t, if_neg (by decide), if_pos rfl, kJ, bnd_s, if_neg (by decide), gd_t, gd_t, if_neg (by decide), if_pos rfl, kI, bnd_s, if_pos (by decide), g4, gd_t, gd_t, if_pos (by decide), if_pos rfl, kJ, bnd_s, if_neg (by decide), g8, gd_t, if_neg (by decide), if_pos rfl, if_neg (by decide), gd_t, if_pos (by decide), cV, bnd_s, if_pos rfl]
        exact hfin
      · have q := v3 (fun w => absurd (t4.mpr w) (by decide)) (fun w => absurd (t5.mpr w) (by decide))
        subst q
        unfold m_L_strikes_118 m_L_strikes_131 m_L_strikes_150 m_L_strikes_165 m_L_strikes_184 m_L_strikes_199 m_L_strikes_218 m_L_strikes_232 m_L_strikes_240
        rw [if_neg (by decide), g2, gd_t, if_neg (by decide), if_pos rfl, kJ, bnd_s, if_neg (by decide), gd_t, gd_t, if_neg (by decide), if_pos rfl, kI, bnd_s, if_pos (by decide), g4, gd_t, gd_t, if_pos (by decide), if_pos rfl, kJ, bnd_s, if_pos (by decide), g8, gd_t, if_pos (by decide), if_pos rfl, if_neg (by decide), gd_t, if_pos (by decide), cV, bnd_s, if_pos rfl]
        exact hfin
      · have q := v5 (fun w => absurd (t4.mpr (w.mpr (t5.mp rfl))) (by decide))
        subst q
        unfold m_L_strikes_118 m_L_strikes_131 m_L_strikes_150 m_L_strikes_165 m_L_strikes_184 m_L_strikes_199 m_L_strikes_218 m_L_strikes_232 m_L_strikes_240
        rw [if_neg (by decide), g2, gd_t, if_neg (by decide), if_pos rfl, kJ, bnd_s, if_pos (by decide), gd_t, gd_t, if_pos (by decide), if_pos rfl, kI, bnd_s, if_pos (by decide), g4, gd_t, gd_t, if_pos (by decide), if_pos rfl, kJ, bnd_s, if_neg (by decide), g8, gd_t, if_neg (by decide), if_pos rfl, if_neg (by decide), gd_t, if_neg (by decide), gd_t, if_neg (by decide), cV, bnd_s, if_pos r4]
        exact hfin
      · have q := v5 (fun w => absurd (t5.mpr (w.mp (t4.mp rfl))) (by decide))
        subst q
        unfold m_L_strikes_118 m_L_strikes_131 m_L_strikes_150 m_L_strikes_165 m_L_strikes_184 m_L_strikes_199 m_L_strikes_218 m_L_strikes_232 m_L_strikes_240
        rw [if_pos (by decide), g2, gd_t, if_pos (by decide), if_pos rfl, kJ, bnd_s, if_neg (by decide), gd_t, gd_t, if_neg (by decide), if_pos rfl, kI, bnd_s, if_neg (by decide), g4, gd_t, gd_t, if_neg (by decide), if_pos rfl, kJ, bnd_s, if_neg (by decide), g8, gd_t, if_neg (by decide), if_pos rfl, if_neg (by decide), gd_t, if_neg (by decide), gd_t, if_neg (by decide), cV, bnd_s, if_pos r4]
        exact hfin
      · have q := v5 (fun w => absurd (t5.mpr (w.mp (t4.mp rfl))) (by decide))
        subst q
        unfold m_L_strikes_118 m_L_strikes_131 m_L_strikes_150 m_L_strikes_165 m_L_strikes_184 m_L_strikes_199 m_L_strikes_218 m_L_strikes_232 m_L_strikes_240
        rw [if_pos (by decide), g2, gd_t, if_pos (by decide), if_pos rfl, kJ, bnd_s, if_neg (by decide), gd_t, gd_t, if_neg (by decide), if_pos rfl, kI, bnd_s, if_neg (by decide), g4, gd_t, gd_t, if_neg (by decide), if_pos rfl, kJ, bnd_s, if_pos (by decide), g8, gd_t, if_pos (by decide), if_pos rfl, if_neg (by decide), gd_t, if_neg (by decide), gd_t, if_neg (by decide), cV, bnd_s, if_pos r4]
        exact hfin
      · have q := v4 (t4.mp rfl) (t5.mp rfl)
        unfold m_L_strikes_118 m_L_strikes_131 m_L_strikes_150 m_L_strikes_165 m_L_strikes_184 m_L_strikes_199 m_L_strikes_218 m_L_strikes_232 m_L_strikes_240
        rw [if_pos (by decide), g2, gd_t, if_pos (by decide), if_pos rfl, kJ, bnd_s, if_pos (by decide), gd_t, gd_t, if_pos (by decide), if_pos rfl, kI, bnd_s, if_neg (by decide), g4, gd_t, gd_t, if_neg (by decide), if_pos rfl, kJ, bnd_s, if_neg (by decide), g8, gd_t, if_neg (by decide), if_pos rfl, if_neg (by decide), gd_t, if_neg (by decide), gd_t, if_pos (by decide), cV, bnd_s, if_neg (nlt q (by omega))]
        exact hfin
    refine t118 ?_
    -- the rest: the least swing, and who smashed whom
    unfold m_L_strikes_300 m_L_strikes_320 m_L_strikes_339
    rw [g4]
    simp only [gd_t]
    by_cases hx2 : x = 2
    · by_cases hy2 : y = 2
      · subst hx2; subst hy2
        rw [if_neg (by decide), if_neg (by decide), if_neg (by decide)]
        exact fin
      · have hb := hJ2.2.1 (by rw [t1, hx2]; rfl) (by rw [t2]; exact fun q => hy2 (nI_inj (b := 2) (by omega) (by decide) q))
        rw [hb] at bI
        have m1 : (nI (oc x y) - nI (oc x y) / 4 * 4 : Int32) = 1 := by
          rcases hy with rfl | rfl | rfl
          · subst hx2; decide
          · subst hx2; decide
          · exact absurd rfl hy2
        rw [m1, if_neg (by decide), if_pos rfl, bI, bnd_s, if_pos rfl, if_neg (by decide)]
        exact fin
    · by_cases hy2 : y = 2
      · have hb := hJ2.2.2 (by rw [t2, hy2]; rfl) (by rw [t1]; exact fun q => hx2 (nI_inj (b := 2) (by omega) (by decide) q))
        rw [hb] at bJ
        have m2 : (nI (oc x y) - nI (oc x y) / 4 * 4 : Int32) = 2 ∧ nI (oc x y) &&& 3 = 2 := by
          rcases hx with rfl | rfl | rfl
          · subst hy2; exact ⟨by decide, by decide⟩
          · subst hy2; exact ⟨by decide, by decide⟩
          · exact absurd rfl hx2
        obtain ⟨u, u1, u2, u3⟩ := lc (by rw [t3]; exact m2.2)
        have c1 : ¬ nI u < 1 := nlt (b := 1) u1 (by omega)
        rw [m2.1, if_pos rfl, u3, if_neg c1, if_neg (nlt u2 (by omega)), if_neg (by decide), if_pos rfl, bJ, bnd_s, if_pos rfl]
        exact fin
      · have m0 : ¬ (nI (oc x y) - nI (oc x y) / 4 * 4 : Int32) = 2 ∧ ¬ (nI (oc x y) - nI (oc x y) / 4 * 4 : Int32) = 1 := by
          rcases hx with rfl | rfl | rfl
          · rcases hy with rfl | rfl | rfl
            · exact ⟨by decide, by decide⟩
            · exact ⟨by decide, by decide⟩
            · exact absurd rfl hy2
          · rcases hy with rfl | rfl | rfl
            · exact ⟨by decide, by decide⟩
            · exact ⟨by decide, by decide⟩
            · exact absurd rfl hy2
          · exact absurd rfl hx2
        rw [if_neg m0.1, if_neg m0.2, if_neg m0.1]
        exact fin
  · have g := neg_lt (pE_err h0)
    have e9 : (uM M 99 (enc z)) 1 = T := (uM_ne _ _ _ (by decide)).trans e
    have I9 : Iv ((uM M 99 (enc z)) 1) n := by rw [e9]; exact hI
    have es : m_X5_strike (nI a) (nI b) (nI t) (uM M 99 (enc z)) = some (pE T n (nI a) (nI b) true, uM M 99 (enc z)) := by
      unfold m_X5_strike
      rw [e9, s_strikeError hI, bnd_s, nm_u, uM_id e9, w1, if_neg h0]
    rw [e, s_strikeError hI, bnd_s, nm_u, uM_id e, w1, if_neg h0, bnd_s, e, s_strikeError hI, bnd_s, nm_u, uM_id e, w2, if_neg h0, bnd_s, hP M e, bnd_s, nm_u, dec_enc, c_6 I9, bnd_s, c_4 I9, bnd_s, es, bnd_s, if_neg g, if_pos rfl, if_pos rfl, hP _ e9, bnd_s, nm_u, dec_enc, lg_same, if_pos rfl, uM_uM]
    exact ⟨_, h, rfl, e9, hi_12 (uM_ne _ _ _ (by decide)) H, by rw [uM_ne _ _ _ (by decide)]; exact J⟩
end STR
