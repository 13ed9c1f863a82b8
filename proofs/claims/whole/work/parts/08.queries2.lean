/-! MORE QUERIES: ranks, heirs, lines -/
section Q2
variable {T TM : Tm} {n : Nat}
def pAh (T : Tm) (c : Nat) : Nat → Bool := fun o => !decide (T 9 o = 2) && (!decide (T 7 o ≤ T 7 c) || (decide (T 7 o = T 7 c) && decide (o < c)))
theorem s_aheadOf_l (h : Iv T n) {c : Nat} (hc : c < n) : ∀ (m i : Nat), i ≤ n → n - i < m → m_X4_conkersAheadOf_4 m (nI c) (nI (cnt (pAh T c) i)) (nI i) T = some (nI (cnt (pAh T c) n), T) := by
  have hn := iv_n h
  intro m
  induction m with
  | zero => intro i _ h2; omega
  | succ m ih =>
    intro i hi hm
    rw [m_X4_conkersAheadOf_4.eq_2, nm_u, iv_N h]
    by_cases hin : n ≤ i
    · have e : i = n := by omega
      subst e
      rw [if_pos (nI_le (Nat.le_refl _) (by omega))]
    · rw [if_neg (nI_ge (by omega) (by omega))]
      have hi' : i < n := by omega
      have st := ih (i + 1) (by omega) (by omega)
      rw [cnt, pAh] at st
      have h5 : (i < c) ↔ ¬ (c ≤ i) := by omega
      by_cases h1 : T 9 i = 2 <;> by_cases h2 : T 7 i ≤ T 7 c <;> by_cases h3 : T 7 i = T 7 c <;> by_cases h4 : c ≤ i
      all_goals
        simp (disch := omega) only [h1, h2, h3, h4, h5, if_true, if_false, not_true_eq_false, not_false_eq_true, decide_true, decide_false, Bool.not_true, Bool.not_false, Bool.and_true, Bool.and_false, Bool.true_and, Bool.false_and, Bool.or_true, Bool.or_false, Bool.true_or, Bool.false_or, ib_nI, gd_t, nm_u, cl_nI, m_X4_conkersAheadOf_32, m_X4_conkersAheadOf_58, m_X4_conkersAheadOf_59, m_X4_conkersAheadOf_81, m_X4_conkersAheadOf_84, nI_p1, nI_leI] at st ⊢
        simpa [pAh] using st
theorem s_aheadOf (h : Iv T n) {c : Nat} (hc : c < n) : m_X4_conkersAheadOf (nI c) T = some (nI (cnt (pAh T c) n), T) := by
  have hn := iv_n h
  unfold m_X4_conkersAheadOf
  exact s_aheadOf_l h hc fu 0 (Nat.zero_le _) (by unfold fu; omega)
theorem s_aheadM_l (hn : n ≤ 30) (hR : RS T (TM 1) 0 n) {c : Nat} (hc : c < n) : ∀ (m i : Nat), i ≤ n → n - i < m → m_X6_ahead_18 m (nI c) (nI (cnt (pAh T c) i)) (T 7 c) (nI i) TM = some (nI (cnt (pAh T c) n), TM) := by
  have e4 := rs_f4 hR
  have e6 := rs_f6 hR
  intro m
  induction m with
  | zero => intro i _ h2; omega
  | succ m ih =>
    intro i hi hm
    rw [m_X6_ahead_18.eq_2, ib0 (by decide) (by decide), gd_t, nm_u, cl0, rs_0 hR]
    by_cases hin : n ≤ i
    · have e : i = n := by omega
      subst e
      rw [if_pos (nI_le (Nat.le_refl _) (by omega))]
    · rw [if_neg (nI_ge (by omega) (by omega))]
      have hi' : i < n := by omega
      have st := ih (i + 1) (by omega) (by omega)
      rw [cnt, pAh] at st
      have e4i := e4 i hi'
      have e6i := e6 i hi'
      have h6 : (T 7 c < T 7 i) ↔ ¬ (T 7 i ≤ T 7 c) := i_lt_nle
      have h5 : (i < c) ↔ ¬ (c ≤ i) := by omega
      by_cases h1 : T 9 i = 2 <;> by_cases h2 : T 7 i ≤ T 7 c <;> by_cases h3 : T 7 i = T 7 c <;> by_cases h4 : c ≤ i
      all_goals
        simp (disch := omega) only [h1, h2, h3, h4, h5, h6, if_true, if_false, not_true_eq_false, not_false_eq_true, decide_true, decide_false, Bool.not_true, Bool.not_false, Bool.and_true, Bool.and_false, Bool.true_and, Bool.false_and, Bool.or_true, Bool.or_false, Bool.true_or, Bool.false_or, s_at0, bnd_s, nI_p4, nI_p6, ib_nI, gd_t, nm_u, cl_nI, e4i, e6i, m_X6_ahead_81, m_X6_ahead_85, m_X6_ahead_86, s_flag, nI_p1, nI_leI] at st ⊢
        simpa [pAh, nI_p1] using st
theorem s_aheadM (hn : n ≤ 30) (hR : RS T (TM 1) 0 n) {c : Nat} (hc : c < n) : m_X6_ahead (nI c) TM = some (nI (cnt (pAh T c) n), TM) := by
  have e4 := rs_f4 hR c hc
  unfold m_X6_ahead
  simp (disch := omega) only [s_at0, bnd_s, nI_p4, ib_nI, gd_t, nm_u, cl_nI, e4]
  exact s_aheadM_l hn hR hc fu 0 (Nat.zero_le _) (by unfold fu; omega)
/-- the first from i on, of k -/
def fr (P : Nat → Bool) : Nat → Nat → Int32
  | 0, _ => (-5)
  | k + 1, i => if P i then nI i else fr P k (i + 1)
def pRk (T : Tm) (n : Nat) (a : Int32) : Nat → Bool := fun c => !decide (T 9 c = 2) && decide (nI (cnt (pAh T c) n) = a)
theorem s_atRank_l (h : Iv T n) (a : Int32) : ∀ (m i : Nat), i ≤ n → n - i < m → m_X4_conkerAtRank_2 m a (nI i) T = some (fr (pRk T n a) (n - i) i, T) := by
  have hn := iv_n h
  intro m
  induction m with
  | zero => intro i _ h2; omega
  | succ m ih =>
    intro i hi hm
    rw [m_X4_conkerAtRank_2.eq_2, nm_u, iv_N h]
    by_cases hin : n ≤ i
    · have e : i = n := by omega
      subst e
      rw [if_pos (nI_le (Nat.le_refl _) (by omega)), Nat.sub_self]
      rfl
    · rw [if_neg (nI_ge (by omega) (by omega))]
      have hi' : i < n := by omega
      have st := ih (i + 1) (by omega) (by omega)
      obtain ⟨k, hk⟩ : ∃ k, n - i = k + 1 := ⟨n - i - 1, by omega⟩
      have hk2 : n - (i + 1) = k := by omega
      rw [hk2] at st
      rw [hk, fr]
      simp (disch := omega) only [ib_nI, gd_t, nm_u, cl_nI, m_X4_conkerAtRank_31, s_aheadOf h hi', bnd_s, nI_p1]
      by_cases h1 : T 9 i = 2
      · simpa [h1, pRk] using st
      · by_cases h2 : nI (cnt (pAh T i) n) = a
        · simp [h1, h2, pRk]
        · simpa [h1, h2, pRk] using st
theorem s_atRank (h : Iv T n) (a : Int32) : m_X4_conkerAtRank a T = some (fr (pRk T n a) n 0, T) := by
  have hn := iv_n h
  unfold m_X4_conkerAtRank
  exact s_atRank_l h a fu 0 (Nat.zero_le _) (by unfold fu; omega)
theorem s_rankedM_l (hn : n ≤ 30) (hR : RS T (TM 1) 0 n) (a : Int32) : ∀ (m i : Nat), i ≤ n → n - i < m → m_X6_ranked_9 m a (nI i) TM = some (fr (pRk T n a) (n - i) i, TM) := by
  have e6 := rs_f6 hR
  intro m
  induction m with
  | zero => intro i _ h2; omega
  | succ m ih =>
    intro i hi hm
    rw [m_X6_ranked_9.eq_2, ib0 (by decide) (by decide), gd_t, nm_u, cl0, rs_0 hR]
    by_cases hin : n ≤ i
    · have e : i = n := by omega
      subst e
      rw [if_pos (nI_le (Nat.le_refl _) (by omega)), Nat.sub_self]
      rfl
    · rw [if_neg (nI_ge (by omega) (by omega))]
      have hi' : i < n := by omega
      have st := ih (i + 1) (by omega) (by omega)
      obtain ⟨k, hk⟩ : ∃ k, n - i = k + 1 := ⟨n - i - 1, by omega⟩
      have hk2 : n - (i + 1) = k := by omega
      rw [hk2] at st
      rw [hk, fr]
      have e6i := e6 i hi'
      simp (disch := omega) only [s_at0, bnd_s, nI_p6, ib_nI, gd_t, nm_u, cl_nI, e6i, m_X6_ranked_47, s_aheadM hn hR hi', nI_p1]
      by_cases h1 : T 9 i = 2
      · simpa [h1, pRk] using st
      · by_cases h2 : nI (cnt (pAh T i) n) = a
        · simp [h1, h2, pRk]
        · simpa [h1, h2, pRk] using st
theorem s_rankedM (hn : n ≤ 30) (hR : RS T (TM 1) 0 n) (a : Int32) (m : Nat) (hm : n < m) : m_X6_ranked_9 m a 0 TM = some (fr (pRk T n a) n 0, TM) := s_rankedM_l hn hR a m 0 (Nat.zero_le _) hm
/-- heirs -/
def pHe (T : Tm) (a : Int32) : Nat → Bool := fun c => decide (T 10 c = a)
theorem s_smashedBy_l (h : Iv T n) (a : Int32) : ∀ (m i : Nat), i ≤ n → n - i < m → m_X4_conkersSmashedBy_4 m a (nI (cnt (pHe T a) i)) (nI i) T = some (nI (cnt (pHe T a) n), T) := by
  have hn := iv_n h
  intro m
  induction m with
  | zero => intro i _ h2; omega
  | succ m ih =>
    intro i hi hm
    rw [m_X4_conkersSmashedBy_4.eq_2, nm_u, iv_N h]
    by_cases hin : n ≤ i
    · have e : i = n := by omega
      subst e
      rw [if_pos (nI_le (Nat.le_refl _) (by omega))]
    · rw [if_neg (nI_ge (by omega) (by omega))]
      have hi' : i < n := by omega
      have st := ih (i + 1) (by omega) (by omega)
      rw [cnt, pHe] at st
      simp (disch := omega) only [ib_nI, gd_t, nm_u, cl_nI, m_X4_conkersSmashedBy_25, nI_p1]
      by_cases h1 : T 10 i = a
      · simpa [h1, pHe] using st
      · simpa [h1, pHe] using st
theorem s_smashedBy (h : Iv T n) (a : Int32) : m_X4_conkersSmashedBy a T = some (nI (cnt (pHe T a) n), T) := by
  have hn := iv_n h
  unfold m_X4_conkersSmashedBy
  exact s_smashedBy_l h a fu 0 (Nat.zero_le _) (by unfold fu; omega)
theorem s_heirOfM_l (hn : n ≤ 30) (hR : RS T (TM 1) 0 n) (a : Int32) : ∀ (m i : Nat), i ≤ n → n - i < m → m_X6_heirOf_4 m a (nI (cnt (pHe T a) i)) (nI i) TM = some (nI (cnt (pHe T a) n), TM) := by
  have e7 := rs_f7 hR
  intro m
  induction m with
  | zero => intro i _ h2; omega
  | succ m ih =>
    intro i hi hm
    rw [m_X6_heirOf_4.eq_2, ib0 (by decide) (by decide), gd_t, nm_u, cl0, rs_0 hR]
    by_cases hin : n ≤ i
    · have e : i = n := by omega
      subst e
      rw [if_pos (nI_le (Nat.le_refl _) (by omega))]
    · rw [if_neg (nI_ge (by omega) (by omega))]
      have hi' : i < n := by omega
      have st := ih (i + 1) (by omega) (by omega)
      rw [cnt, pHe] at st
      have e7i := e7 i hi'
      simp (disch := omega) only [s_at0, bnd_s, nI_p7, ib_nI, gd_t, nm_u, cl_nI, e7i, m_X6_heirOf_37, s_flag, nI_p1]
      by_cases h1 : T 10 i = a
      · simpa [h1, pHe, nI_p1] using st
      · simpa [h1, pHe, nI_p1] using st
theorem s_heirOfM (hn : n ≤ 30) (hR : RS T (TM 1) 0 n) (a : Int32) : m_X6_heirOf a TM = some (nI (cnt (pHe T a) n), TM) := by
  unfold m_X6_heirOf
  exact s_heirOfM_l hn hR a fu 0 (Nat.zero_le _) (by unfold fu; omega)
theorem s_withHeir (h : Iv T n) : m_X4_conkersWithHeir T = some (nI (cnt (nby T) n), T) := by
  unfold m_X4_conkersWithHeir
  rw [nm_u, iv_N h, s_smashedBy h, bnd_s]
  have e : cnt (nby T) n + cnt (pHe T (-5)) n = n := cnt_not (fun i _ => rfl)
  rw [pk_sub (by omega)]
  have e2 : n - cnt (pHe T (-5)) n = cnt (nby T) n := by omega
  rw [e2]
/-- lines: is a above, in at most k steps? -/
def ilv (T : Tm) (a : Int32) : Nat → Int32 → Bool
  | 0, _ => false
  | k + 1, x => if x = (-5) then false else if x = a then true else ilv T a k (T 10 x.toNatClampNeg)
theorem hC_m5 (n : Nat) : hC (-5) n = false := by
  have : ¬ ((0 : Int32) ≤ (-5)) := by decide
  simp [hC, this]
theorem s_isInLineOf_l (h : Iv T n) {d : Nat → Nat} (hd : ∀ c j, c < n → j < n → T 10 c = nI j → d j < d c) (a : Int32) : ∀ (k m i : Nat) (x : Int32), (x = (-5) ∨ ∃ j, j < n ∧ x = nI j ∧ d j < k) → i + k ≤ n → k < m → m_X4_isInLineOf_10 m a x (nI i) T = some (bI (ilv T a k x), T) := by
  have hn := iv_n h
  intro k
  induction k with
  | zero =>
    intro m i x hx hi hm
    obtain ⟨m, rfl⟩ : ∃ m', m = m' + 1 := ⟨m - 1, by omega⟩
    have hx5 : x = (-5) := by
      rcases hx with h1 | ⟨j, -, -, h3⟩
      · exact h1
      · omega
    subst hx5
    rw [m_X4_isInLineOf_10.eq_2, nm_u, iv_N h, s_hasConker h, bnd_s, hC_m5]
    split
    · rfl
    · rfl
  | succ k ih =>
    intro m i x hx hi hm
    obtain ⟨m, rfl⟩ : ∃ m', m = m' + 1 := ⟨m - 1, by omega⟩
    rw [m_X4_isInLineOf_10.eq_2, nm_u, iv_N h, if_neg (nI_ge (by omega) (by omega)), s_hasConker h, bnd_s]
    rcases hx with rfl | ⟨j, hj, rfl, hdj⟩
    · rw [hC_m5]
      rfl
    · rw [hC_nI hj (by omega), ilv, if_neg (nI_nem5 (by omega)), cl_nI (by omega)]
      simp only [bI, if_true]
      rw [if_neg (by decide)]
      by_cases ha : nI j = a
      · rw [if_pos ha, if_pos ha]
        rfl
      · rw [if_neg ha, if_neg ha]
        simp (disch := omega) only [ib_nI, gd_t, nm_u, nI_p1]
        have := ih m (i + 1) (T 10 j) (by
          rcases iv_by h j hj with h1 | ⟨j2, h2, h3⟩
          · exact Or.inl h1
          · exact Or.inr ⟨j2, h2, h3, by have := hd j j2 hj h2 h3; omega⟩) (by omega) (by omega)
        simpa [bI] using this
theorem u_isInLineOf (hn : n ≤ 30) {c : Nat} (hc : c < n) (a : Int32) : m_X4_isInLineOf (nI c) a T = m_X4_isInLineOf_10 fu a (T 10 c) (nI 0) T := by
  unfold m_X4_isInLineOf
  simp (disch := omega) only [ib_nI, gd_t, nm_u, cl_nI, nI_p0]
theorem d_isInLineOf (h : Iv T n) {d : Nat → Nat} (h1 : ∀ c, c < n → d c ≤ cnt (nby T) n) (h2 : ∀ c j, c < n → j < n → T 10 c = nI j → d j < d c) {c : Nat} (hc : c < n) : T 10 c = (-5) ∨ ∃ j, j < n ∧ T 10 c = nI j ∧ d j < n := by
  rcases iv_by h c hc with h3 | ⟨j, h3, h4⟩
  · exact Or.inl h3
  · refine Or.inr ⟨j, h3, h4, ?_⟩
    have := h2 c j hc h3 h4
    have := h1 c hc
    have := cnt_le (nby T) n
    omega
theorem fu_big (hn : n ≤ 30) : n < fu := by unfold fu; omega
theorem s_isInLineOf (h : Iv T n) {c : Nat} (hc : c < n) (a : Int32) : m_X4_isInLineOf (nI c) a T = some (bI (ilv T a n (T 10 c)), T) := by
  obtain ⟨d, h1, h2⟩ := iv_d h
  exact (u_isInLineOf (iv_n h) hc a).trans (s_isInLineOf_l h h2 a n fu 0 (T 10 c) (d_isInLineOf h h1 h2 hc) (Nat.le_of_eq (Nat.zero_add n)) (fu_big (iv_n h)))
theorem s_isInLineM_l (h : Iv T n) (hR : RS T (TM 1) 0 n) {d : Nat → Nat} (hd : ∀ c j, c < n → j < n → T 10 c = nI j → d j < d c) (a : Int32) : ∀ (k m : Nat) (x : Int32) (b : Bool), (x = (-5) ∨ ∃ j, j < n ∧ x = nI j ∧ d j < k) → k < m → m_X6_isInLine_17 m a (bI b) x TM = some (bI (b || ilv T a k x), TM) := by
  have hn := iv_n h
  have e7 := rs_f7 hR
  intro k
  induction k with
  | zero =>
    intro m x b hx hm
    obtain ⟨m, rfl⟩ : ∃ m', m = m' + 1 := ⟨m - 1, by omega⟩
    have hx5 : x = (-5) := by
      rcases hx with h1 | ⟨j, -, -, h3⟩
      · exact h1
      · omega
    subst hx5
    rw [m_X6_isInLine_17.eq_2, if_pos rfl, bI_nb, gd_t, ilv, Bool.or_false]
  | succ k ih =>
    intro m x b hx hm
    obtain ⟨m, rfl⟩ : ∃ m', m = m' + 1 := ⟨m - 1, by omega⟩
    rw [m_X6_isInLine_17.eq_2]
    rcases hx with rfl | ⟨j, hj, rfl, hdj⟩
    · rw [if_pos rfl, bI_nb, gd_t, ilv, if_pos rfl, Bool.or_false]
    · rw [if_neg (nI_nem5 (by omega)), ilv, if_neg (nI_nem5 (by omega)), cl_nI (by omega)]
      have e7j := e7 j hj
      simp (disch := omega) only [m_X6_isInLine_34, m_X6_isInLine_39, s_at0, bnd_s, nI_p7, ib_nI, gd_t, nm_u, cl_nI, e7j]
      have st := ih m (T 10 j)
      have hx2 : T 10 j = (-5) ∨ ∃ j2, j2 < n ∧ T 10 j = nI j2 ∧ d j2 < k := by
        rcases iv_by h j hj with h1 | ⟨j2, h2, h3⟩
        · exact Or.inl h1
        · exact Or.inr ⟨j2, h2, h3, by have := hd j j2 hj h2 h3; omega⟩
      cases b with
      | true =>
        have := st true hx2 (by omega)
        simpa [bI] using this
      | false =>
        by_cases ha : nI j = a
        · have := st true hx2 (by omega)
          simpa [bI, ha] using this
        · have := st false hx2 (by omega)
          simpa [bI, ha] using this
theorem s_isInLineM (h : Iv T n) (hR : RS T (TM 1) 0 n) {c : Nat} (hc : c < n) (a : Int32) : m_X6_isInLine a (nI c) TM = some (bI (ilv T a n (T 10 c)), TM) := by
  have hn := iv_n h
  obtain ⟨d, h1, h2⟩ := iv_d h
  have e7c := rs_f7 hR c hc
  unfold m_X6_isInLine
  simp (disch := omega) only [s_at0, bnd_s, nI_p7, ib_nI, gd_t, nm_u, cl_nI, e7c]
  have := s_isInLineM_l h hR h2 a n fu (T 10 c) false (by
    rcases iv_by h c hc with h3 | ⟨j, h3, h4⟩
    · exact Or.inl h3
    · refine Or.inr ⟨j, h3, h4, ?_⟩
      have := h2 c j hc h3 h4
      have := h1 c hc
      have := cnt_le (nby T) n
      omega) (by unfold fu; omega)
  simpa [bI] using this
def pLi (T : Tm) (n : Nat) (a : Int32) : Nat → Bool := fun c => ilv T a n (T 10 c)
theorem s_lengthOfLine_l (h : Iv T n) (a : Int32) : ∀ (m i : Nat), i ≤ n → n - i < m → m_X4_lengthOfLine_4 m a (nI (cnt (pLi T n a) i)) (nI i) T = some (nI (cnt (pLi T n a) n), T) := by
  have hn := iv_n h
  intro m
  induction m with
  | zero => intro i _ h2; omega
  | succ m ih =>
    intro i hi hm
    rw [m_X4_lengthOfLine_4.eq_2, nm_u, iv_N h]
    by_cases hin : n ≤ i
    · have e : i = n := by omega
      subst e
      rw [if_pos (nI_le (Nat.le_refl _) (by omega))]
    · rw [if_neg (nI_ge (by omega) (by omega))]
      have hi' : i < n := by omega
      have st := ih (i + 1) (by omega) (by omega)
      rw [cnt, pLi] at st
      simp (disch := omega) only [s_isInLineOf h hi', bnd_s, m_X4_lengthOfLine_24, nI_p1]
      cases h1 : ilv T a n (T 10 i) with
      | true => simpa [h1, bI, pLi] using st
      | false => simpa [h1, bI, pLi] using st
theorem s_lengthOfLine (h : Iv T n) (a : Int32) : m_X4_lengthOfLine a T = some (nI (cnt (pLi T n a) n), T) := by
  have hn := iv_n h
  unfold m_X4_lengthOfLine
  exact s_lengthOfLine_l h a fu 0 (Nat.zero_le _) (by unfold fu; omega)
theorem s_lineM_l (h : Iv T n) (hR : RS T (TM 1) 0 n) (a : Int32) : ∀ (m i : Nat), i ≤ n → n - i < m → m_X6_line_14 m a (nI (cnt (pLi T n a) i)) (nI i) TM = some (nI (cnt (pLi T n a) n), TM) := by
  have hn := iv_n h
  intro m
  induction m with
  | zero => intro i _ h2; omega
  | succ m ih =>
    intro i hi hm
    rw [m_X6_line_14.eq_2, ib0 (by decide) (by decide), gd_t, nm_u, cl0, rs_0 hR]
    by_cases hin : n ≤ i
    · have e : i = n := by omega
      subst e
      rw [if_pos (nI_le (Nat.le_refl _) (by omega))]
    · rw [if_neg (nI_ge (by omega) (by omega))]
      have hi' : i < n := by omega
      have st := ih (i + 1) (by omega) (by omega)
      rw [cnt, pLi] at st
      simp (disch := omega) only [s_isInLineM h hR hi', bnd_s, s_flag, nI_p1]
      cases h1 : ilv T a n (T 10 i) with
      | true => simpa [h1, bI, pLi, nI_p1] using st
      | false => simpa [h1, bI, pLi, nI_p1] using st
theorem s_lineM (h : Iv T n) (hR : RS T (TM 1) 0 n) (a : Int32) : m_X6_line_14 fu a 0 0 TM = some (nI (cnt (pLi T n a) n), TM) := by
  have hn := iv_n h
  exact s_lineM_l h hR a fu 0 (Nat.zero_le _) (by unfold fu; omega)
end Q2
