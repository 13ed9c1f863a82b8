/-! QUERIES: what the loops of both sides count -/
section Q
variable {T : Tm} {n : Nat}
/-- of a player (or of all), and in some way -/
def ofP (T : Tm) (all : Bool) (p : Int32) (c : Nat) : Bool := all || decide (T 3 c = p)
def pBe (T : Tm) (how : Int32) (all : Bool) (p : Int32) : Nat → Bool := fun c => decide (T 9 c = how) && ofP T all p c
theorem s_isOf (h : Iv T n) (p : Int32) {c : Nat} (hc : c < n) : m_X4_isOf (nI c) p T = some (bI (ofP T (decide (p = (-1))) p c), T) := by
  have hn := iv_n h
  unfold m_X4_isOf m_X4_isOf_15 ofP
  by_cases h1 : p = (-1)
  · simp [h1, bI]
  · rw [if_neg h1]
    simp (disch := omega) only [ib_nI, gd_t, nm_u, cl_nI]
    by_cases h2 : T 3 c = p
    · simp [h1, h2, bI]
    · simp [h1, h2, bI]
theorem s_conkersBeing_l (h : Iv T n) (how p : Int32) : ∀ (m i : Nat), i ≤ n → n - i < m → m_X4_conkersBeing_5 m how p (nI (cnt (pBe T how (decide (p = (-1))) p) i)) (nI i) T = some (nI (cnt (pBe T how (decide (p = (-1))) p) n), T) := by
  have hn := iv_n h
  intro m
  induction m with
  | zero => intro i _ h2; omega
  | succ m ih =>
    intro i hi hm
    rw [m_X4_conkersBeing_5.eq_2, nm_u, iv_N h]
    by_cases hin : n ≤ i
    · have e : i = n := by omega
      subst e
      rw [if_pos (nI_le (Nat.le_refl _) (by omega))]
    · rw [if_neg (nI_ge (by omega) (by omega))]
      have hi' : i < n := by omega
      have st := ih (i + 1) (by omega) (by omega)
      rw [cnt, pBe] at st
      simp (disch := omega) only [ib_nI, gd_t, nm_u, cl_nI, s_isOf h p hi', bnd_s, m_X4_conkersBeing_38, nI_p1]
      by_cases h1 : T 9 i = how
      · rw [if_pos h1]
        cases h2 : ofP T (decide (p = (-1))) p i with
        | true =>
          simp only [h1, h2, decide_true, Bool.and_self, if_true] at st
          simpa [bI, pBe] using st
        | false =>
          simp only [h1, h2, decide_true, Bool.and_false] at st
          simpa [bI, pBe] using st
      · rw [if_neg h1]
        simpa [h1, pBe] using st
theorem s_conkersBeing (h : Iv T n) (how p : Int32) : m_X4_conkersBeing how p T = some (nI (cnt (pBe T how (decide (p = (-1))) p) n), T) := by
  have hn := iv_n h
  unfold m_X4_conkersBeing
  exact s_conkersBeing_l h how p fu 0 (Nat.zero_le _) (by unfold fu; omega)
/-- victories -/
def vf (T : Tm) (all : Bool) (p : Int32) : Nat → Int32 := fun c => if ofP T all p c = true then T 7 c else 0
theorem s_victoriesOf_l (h : Iv T n) (p : Int32) : ∀ (m i : Nat), i ≤ n → n - i < m → m_X4_victoriesOf_4 m p (bx_sum (vf T (decide (p = (-1))) p) i) (nI i) T = some (bx_sum (vf T (decide (p = (-1))) p) n, T) := by
  have hn := iv_n h
  intro m
  induction m with
  | zero => intro i _ h2; omega
  | succ m ih =>
    intro i hi hm
    rw [m_X4_victoriesOf_4.eq_2, nm_u, iv_N h]
    by_cases hin : n ≤ i
    · have e : i = n := by omega
      subst e
      rw [if_pos (nI_le (Nat.le_refl _) (by omega))]
    · rw [if_neg (nI_ge (by omega) (by omega))]
      have hi' : i < n := by omega
      have st := ih (i + 1) (by omega) (by omega)
      rw [bx_sum, vf] at st
      simp (disch := omega) only [s_isOf h p hi', bnd_s, m_X4_victoriesOf_30, nI_p1]
      cases h2 : ofP T (decide (p = (-1))) p i with
      | true =>
        simp (disch := omega) only [h2, if_true, ib_nI, gd_t, nm_u, cl_nI] at st ⊢
        simpa [bI, vf] using st
      | false =>
        simp only [h2] at st
        simpa [bI, vf] using st
theorem s_victoriesOf (h : Iv T n) (p : Int32) : m_X4_victoriesOf p T = some (bx_sum (vf T (decide (p = (-1))) p) n, T) := by
  have hn := iv_n h
  unfold m_X4_victoriesOf
  exact s_victoriesOf_l h p fu 0 (Nat.zero_le _) (by unfold fu; omega)
/-- the conker that a player sends -/
def bst (T : Tm) (p : Int32) : Nat → Int32
  | 0 => (-5)
  | i + 1 => if T 9 i = 0 ∧ T 3 i = p ∧ (bst T p i = (-5) ∨ ¬ T 7 i ≤ T 7 (bst T p i).toNatClampNeg) then nI i else bst T p i
theorem bst_or (T : Tm) (p : Int32) (i : Nat) : bst T p i = (-5) ∨ ∃ j, j < i ∧ bst T p i = nI j ∧ T 9 j = 0 ∧ T 3 j = p := by
  induction i with
  | zero => exact Or.inl rfl
  | succ i ih =>
    rw [bst]
    split
    · rename_i h
      exact Or.inr ⟨i, by omega, rfl, h.1, h.2.1⟩
    · rcases ih with h | ⟨j, h1, h2, h3⟩
      · exact Or.inl h
      · exact Or.inr ⟨j, by omega, h2, h3⟩
theorem lt0_m5 : ((-5) : Int32) < 0 := by decide
theorem s_conkerToSend_l (h : Iv T n) (p : Int32) : ∀ (m i : Nat), i ≤ n → n - i < m → m_X4_conkerToSend_5 m p (bst T p i) (nI i) T = some (bst T p n, T) := by
  have hn := iv_n h
  intro m
  induction m with
  | zero => intro i _ h2; omega
  | succ m ih =>
    intro i hi hm
    rw [m_X4_conkerToSend_5.eq_2, nm_u, iv_N h]
    by_cases hin : n ≤ i
    · have e : i = n := by omega
      subst e
      rw [if_pos (nI_le (Nat.le_refl _) (by omega))]
    · rw [if_neg (nI_ge (by omega) (by omega))]
      have hi' : i < n := by omega
      have st := ih (i + 1) (by omega) (by omega)
      rw [bst] at st
      simp (disch := omega) only [ib_nI, gd_t, nm_u, cl_nI, m_X4_conkerToSend_53, m_X4_conkerToSend_51, nI_p1]
      by_cases h1 : T 9 i = 0
      · by_cases h2 : T 3 i = p
        · rcases bst_or T p i with h3 | ⟨j, hj, h3, -⟩
          · simp only [h1, h2, h3, if_true, true_and, true_or, if_pos lt0_m5] at st ⊢
            exact st
          · have hnm := nI_nem5 (n := j) (by omega)
            have hnp := nI_pos (n := j) (by omega)
            simp (disch := omega) only [h1, h2, h3, if_true, true_and, hnm, false_or, if_neg hnp, ib_nI, gd_t, cl_nI] at st ⊢
            by_cases h4 : T 7 i ≤ T 7 j
            · simp only [h4, not_true_eq_false, if_false, if_true] at st ⊢
              exact st
            · simp only [h4, not_false_eq_true, if_false, if_true] at st ⊢
              exact st
        · simp only [h1, h2, if_true, false_and, and_false, if_false] at st ⊢
          exact st
      · simp only [h1, if_false, false_and] at st ⊢
        exact st
theorem s_conkerToSend (h : Iv T n) (p : Int32) : m_X4_conkerToSend p T = some (bst T p n, T) := by
  have hn := iv_n h
  unfold m_X4_conkerToSend
  exact s_conkerToSend_l h p fu 0 (Nat.zero_le _) (by unfold fu; omega)
/-- boasts -/
def pBt (T : Tm) : Nat → Bool := fun c => !decide (T 8 c = (-5))
def pBh (T : Tm) : Nat → Bool := fun c => !decide (T 8 c ≤ T 7 c)
theorem s_boastsTold_l (h : Iv T n) : ∀ (m i : Nat), i ≤ n → n - i < m → m_X4_boastsTold_4 m (nI (cnt (pBt T) i)) (nI i) T = some (nI (cnt (pBt T) n), T) := by
  have hn := iv_n h
  intro m
  induction m with
  | zero => intro i _ h2; omega
  | succ m ih =>
    intro i hi hm
    rw [m_X4_boastsTold_4.eq_2, nm_u, iv_N h]
    by_cases hin : n ≤ i
    · have e : i = n := by omega
      subst e
      rw [if_pos (nI_le (Nat.le_refl _) (by omega))]
    · rw [if_neg (nI_ge (by omega) (by omega))]
      have hi' : i < n := by omega
      have st := ih (i + 1) (by omega) (by omega)
      rw [cnt, pBt] at st
      simp (disch := omega) only [ib_nI, gd_t, nm_u, cl_nI, m_X4_boastsTold_26, nI_p1]
      by_cases h1 : T 8 i = (-5)
      · simpa [h1, pBt] using st
      · simpa [h1, pBt] using st
theorem s_boastsTold (h : Iv T n) : m_X4_boastsTold T = some (nI (cnt (pBt T) n), T) := by
  have hn := iv_n h
  unfold m_X4_boastsTold
  exact s_boastsTold_l h fu 0 (Nat.zero_le _) (by unfold fu; omega)
theorem s_boastsTooHigh_l (h : Iv T n) : ∀ (m i : Nat), i ≤ n → n - i < m → m_X4_boastsTooHigh_4 m (nI (cnt (pBh T) i)) (nI i) T = some (nI (cnt (pBh T) n), T) := by
  have hn := iv_n h
  intro m
  induction m with
  | zero => intro i _ h2; omega
  | succ m ih =>
    intro i hi hm
    rw [m_X4_boastsTooHigh_4.eq_2, nm_u, iv_N h]
    by_cases hin : n ≤ i
    · have e : i = n := by omega
      subst e
      rw [if_pos (nI_le (Nat.le_refl _) (by omega))]
    · rw [if_neg (nI_ge (by omega) (by omega))]
      have hi' : i < n := by omega
      have st := ih (i + 1) (by omega) (by omega)
      rw [cnt, pBh] at st
      simp (disch := omega) only [ib_nI, gd_t, nm_u, cl_nI, m_X4_boastsTooHigh_30, nI_p1]
      by_cases h1 : T 8 i ≤ T 7 i
      · simpa [h1, pBh] using st
      · simpa [h1, pBh] using st
theorem s_boastsTooHigh (h : Iv T n) : m_X4_boastsTooHigh T = some (nI (cnt (pBh T) n), T) := by
  have hn := iv_n h
  unfold m_X4_boastsTooHigh
  exact s_boastsTooHigh_l h fu 0 (Nat.zero_le _) (by unfold fu; omega)
/-- victories are numbers of 0 and more -/
theorem iv_vle (h : Iv T n) {c : Nat} (hc : c < n) : ∃ j, j ≤ 30 ∧ T 7 c = nI j := by
  obtain ⟨v, l, h1, h2, h3⟩ := iv_v h
  have h4 := sm_one (v := v) hc
  have h5 := cnt_le (nby T) n
  have h6 := iv_n h
  exact ⟨v c, by omega, h1 c hc⟩
end Q

/-! MORE QUERIES: ranks, heirs, lines -/
section Q2
variable {T : Tm} {n : Nat}
def pAh (T : Tm) (c : Nat) : Nat → Bool := fun o => !decide (T 9 o = 2) && (!decide (T 7 o ≤ T 7 c) || (decide (T 7 o = T 7 c) && decide (o < c)))
theorem s_aheadOf_l (h : Iv T n) {c : Nat} (hc : c < n) : ∀ (m i : Nat), i ≤ n → n - i < m → m_X4_conkersAheadOf_4 m (nI c) (nI (cnt (pAh T c) i)) (nI i) T = some (nI (cnt (pAh T c) n), T) := by
  have hn := iv_n h
  intro m
  induction m with
  | zero => intro i _ h2; omega
  | succ m ih =>
    intro i hi hm
    rw [m_X4_conkersAheadOf_4.eq_2, nm_u, iv_N h]
    by_cases hin : n ≤ i
    · have e : i = n := by omega
      subst e
      rw [if_pos (nI_le (Nat.le_refl _) (by omega))]
    · rw [if_neg (nI_ge (by omega) (by omega))]
      have hi' : i < n := by omega
      have st := ih (i + 1) (by omega) (by omega)
      rw [cnt, pAh] at st
      have h5 : (i < c) ↔ ¬ (c ≤ i) := by omega
      by_cases h1 : T 9 i = 2 <;> by_cases h2 : T 7 i ≤ T 7 c <;> by_cases h3 : T 7 i = T 7 c <;> by_cases h4 : c ≤ i
      all_goals
        simp (disch := omega) only [h1, h2, h3, h4, h5, if_true, if_false, not_true_eq_false, not_false_eq_true, decide_true, decide_false, Bool.not_true, Bool.not_false, Bool.and_true, Bool.and_false, Bool.true_and, Bool.false_and, Bool.or_true, Bool.or_false, Bool.true_or, Bool.false_or, ib_nI, gd_t, nm_u, cl_nI, m_X4_conkersAheadOf_32, m_X4_conkersAheadOf_58, m_X4_conkersAheadOf_59, m_X4_conkersAheadOf_81, m_X4_conkersAheadOf_84, nI_p1, nI_leI] at st ⊢
        simpa [pAh] using st
theorem s_aheadOf (h : Iv T n) {c : Nat} (hc : c < n) : m_X4_conkersAheadOf (nI c) T = some (nI (cnt (pAh T c) n), T) := by
  have hn := iv_n h
  unfold m_X4_conkersAheadOf
  exact s_aheadOf_l h hc fu 0 (Nat.zero_le _) (by unfold fu; omega)
/-- the first from i on, of k -/
def fr (P : Nat → Bool) : Nat → Nat → Int32
  | 0, _ => (-5)
  | k + 1, i => if P i then nI i else fr P k (i + 1)
def pRk (T : Tm) (n : Nat) (a : Int32) : Nat → Bool := fun c => !decide (T 9 c = 2) && decide (nI (cnt (pAh T c) n) = a)
theorem s_atRank_l (h : Iv T n) (a : Int32) : ∀ (m i : Nat), i ≤ n → n - i < m → m_X4_conkerAtRank_2 m a (nI i) T = some (fr (pRk T n a) (n - i) i, T) := by
  have hn := iv_n h
  intro m
  induction m with
  | zero => intro i _ h2; omega
  | succ m ih =>
    intro i hi hm
    rw [m_X4_conkerAtRank_2.eq_2, nm_u, iv_N h]
    by_cases hin : n ≤ i
    · have e : i = n := by omega
      subst e
      rw [if_pos (nI_le (Nat.le_refl _) (by omega)), Nat.sub_self]
      rfl
    · rw [if_neg (nI_ge (by omega) (by omega))]
      have hi' : i < n := by omega
      have st := ih (i + 1) (by omega) (by omega)
      obtain ⟨k, hk⟩ : ∃ k, n - i = k + 1 := ⟨n - i - 1, by omega⟩
      have hk2 : n - (i + 1) = k := by omega
      rw [hk2] at st
      rw [hk, fr]
      simp (disch := omega) only [ib_nI, gd_t, nm_u, cl_nI, m_X4_conkerAtRank_31, s_aheadOf h hi', bnd_s, nI_p1]
      by_cases h1 : T 9 i = 2
      · simpa [h1, pRk] using st
      · by_cases h2 : nI (cnt (pAh T i) n) = a
        · simp [h1, h2, pRk]
        · simpa [h1, h2, pRk] using st
theorem s_atRank (h : Iv T n) (a : Int32) : m_X4_conkerAtRank a T = some (fr (pRk T n a) n 0, T) := by
  have hn := iv_n h
  unfold m_X4_conkerAtRank
  exact s_atRank_l h a fu 0 (Nat.zero_le _) (by unfold fu; omega)
/-- heirs -/
def pHe (T : Tm) (a : Int32) : Nat → Bool := fun c => decide (T 10 c = a)
theorem s_smashedBy_l (h : Iv T n) (a : Int32) : ∀ (m i : Nat), i ≤ n → n - i < m → m_X4_conkersSmashedBy_4 m a (nI (cnt (pHe T a) i)) (nI i) T = some (nI (cnt (pHe T a) n), T) := by
  have hn := iv_n h
  intro m
  induction m with
  | zero => intro i _ h2; omega
  | succ m ih =>
    intro i hi hm
    rw [m_X4_conkersSmashedBy_4.eq_2, nm_u, iv_N h]
    by_cases hin : n ≤ i
    · have e : i = n := by omega
      subst e
      rw [if_pos (nI_le (Nat.le_refl _) (by omega))]
    · rw [if_neg (nI_ge (by omega) (by omega))]
      have hi' : i < n := by omega
      have st := ih (i + 1) (by omega) (by omega)
      rw [cnt, pHe] at st
      simp (disch := omega) only [ib_nI, gd_t, nm_u, cl_nI, m_X4_conkersSmashedBy_25, nI_p1]
      by_cases h1 : T 10 i = a
      · simpa [h1, pHe] using st
      · simpa [h1, pHe] using st
theorem s_smashedBy (h : Iv T n) (a : Int32) : m_X4_conkersSmashedBy a T = some (nI (cnt (pHe T a) n), T) := by
  have hn := iv_n h
  unfold m_X4_conkersSmashedBy
  exact s_smashedBy_l h a fu 0 (Nat.zero_le _) (by unfold fu; omega)
theorem s_withHeir (h : Iv T n) : m_X4_conkersWithHeir T = some (nI (cnt (nby T) n), T) := by
  unfold m_X4_conkersWithHeir
  rw [nm_u, iv_N h, s_smashedBy h, bnd_s]
  have e : cnt (nby T) n + cnt (pHe T (-5)) n = n := cnt_not (fun i _ => rfl)
  rw [pk_sub (by omega)]
  have e2 : n - cnt (pHe T (-5)) n = cnt (nby T) n := by omega
  rw [e2]
/-- lines: is a above, in at most k steps? -/
def ilv (T : Tm) (a : Int32) : Nat → Int32 → Bool
  | 0, _ => false
  | k + 1, x => if x = (-5) then false else if x = a then true else ilv T a k (T 10 x.toNatClampNeg)
theorem hC_m5 (n : Nat) : hC (-5) n = false := by
  have : ¬ ((0 : Int32) ≤ (-5)) := by decide
  simp [hC, this]
theorem s_isInLineOf_l (h : Iv T n) {d : Nat → Nat} (hd : ∀ c j, c < n → j < n → T 10 c = nI j → d j < d c) (a : Int32) : ∀ (k m i : Nat) (x : Int32), (x = (-5) ∨ ∃ j, j < n ∧ x = nI j ∧ d j < k) → i + k ≤ n → k < m → m_X4_isInLineOf_10 m a x (nI i) T = some (bI (ilv T a k x), T) := by
  have hn := iv_n h
  intro k
  induction k with
  | zero =>
    intro m i x hx hi hm
    obtain ⟨m, rfl⟩ : ∃ m', m = m' + 1 := ⟨m - 1, by omega⟩
    have hx5 : x = (-5) := by
      rcases hx with h1 | ⟨j, -, -, h3⟩
      · exact h1
      · omega
    subst hx5
    rw [m_X4_isInLineOf_10.eq_2, nm_u, iv_N h, s_hasConker h, bnd_s, hC_m5]
    split
    · rfl
    · rfl
  | succ k ih =>
    intro m i x hx hi hm
    obtain ⟨m, rfl⟩ : ∃ m', m = m' + 1 := ⟨m - 1, by omega⟩
    rw [m_X4_isInLineOf_10.eq_2, nm_u, iv_N h, if_neg (nI_ge (by omega) (by omega)), s_hasConker h, bnd_s]
    rcases hx with rfl | ⟨j, hj, rfl, hdj⟩
    · rw [hC_m5]
      rfl
    · rw [hC_nI hj (by omega), ilv, if_neg (nI_nem5 (by omega)), cl_nI (by omega)]
      simp only [bI, if_true]
      rw [if_neg (by decide)]
      by_cases ha : nI j = a
      · rw [if_pos ha, if_pos ha]
        rfl
      · rw [if_neg ha, if_neg ha]
        simp (disch := omega) only [ib_nI, gd_t, nm_u, nI_p1]
        have := ih m (i + 1) (T 10 j) (by
          rcases iv_by h j hj with h1 | ⟨j2, h2, h3⟩
          · exact Or.inl h1
          · exact Or.inr ⟨j2, h2, h3, by have := hd j j2 hj h2 h3; omega⟩) (by omega) (by omega)
        simpa [bI] using this
theorem u_isInLineOf (hn : n ≤ 30) {c : Nat} (hc : c < n) (a : Int32) : m_X4_isInLineOf (nI c) a T = m_X4_isInLineOf_10 fu a (T 10 c) (nI 0) T := by
  unfold m_X4_isInLineOf
  simp (disch := omega) only [ib_nI, gd_t, nm_u, cl_nI, nI_p0]
theorem d_isInLineOf (h : Iv T n) {d : Nat → Nat} (h1 : ∀ c, c < n → d c ≤ cnt (nby T) n) (h2 : ∀ c j, c < n → j < n → T 10 c = nI j → d j < d c) {c : Nat} (hc : c < n) : T 10 c = (-5) ∨ ∃ j, j < n ∧ T 10 c = nI j ∧ d j < n := by
  rcases iv_by h c hc with h3 | ⟨j, h3, h4⟩
  · exact Or.inl h3
  · refine Or.inr ⟨j, h3, h4, ?_⟩
    have := h2 c j hc h3 h4
    have := h1 c hc
    have := cnt_le (nby T) n
    omega
theorem fu_big (hn : n ≤ 30) : n < fu := by unfold fu; omega
theorem s_isInLineOf (h : Iv T n) {c : Nat} (hc : c < n) (a : Int32) : m_X4_isInLineOf (nI c) a T = some (bI (ilv T a n (T 10 c)), T) := by
  obtain ⟨d, h1, h2⟩ := iv_d h
  exact (u_isInLineOf (iv_n h) hc a).trans (s_isInLineOf_l h h2 a n fu 0 (T 10 c) (d_isInLineOf h h1 h2 hc) (Nat.le_of_eq (Nat.zero_add n)) (fu_big (iv_n h)))
def pLi (T : Tm) (n : Nat) (a : Int32) : Nat → Bool := fun c => ilv T a n (T 10 c)
theorem s_lengthOfLine_l (h : Iv T n) (a : Int32) : ∀ (m i : Nat), i ≤ n → n - i < m → m_X4_lengthOfLine_4 m a (nI (cnt (pLi T n a) i)) (nI i) T = some (nI (cnt (pLi T n a) n), T) := by
  have hn := iv_n h
  intro m
  induction m with
  | zero => intro i _ h2; omega
  | succ m ih =>
    intro i hi hm
    rw [m_X4_lengthOfLine_4.eq_2, nm_u, iv_N h]
    by_cases hin : n ≤ i
    · have e : i = n := by omega
      subst e
      rw [if_pos (nI_le (Nat.le_refl _) (by omega))]
    · rw [if_neg (nI_ge (by omega) (by omega))]
      have hi' : i < n := by omega
      have st := ih (i + 1) (by omega) (by omega)
      rw [cnt, pLi] at st
      simp (disch := omega) only [s_isInLineOf h hi', bnd_s, m_X4_lengthOfLine_24, nI_p1]
      cases h1 : ilv T a n (T 10 i) with
      | true => simpa [h1, bI, pLi] using st
      | false => simpa [h1, bI, pLi] using st
theorem s_lengthOfLine (h : Iv T n) (a : Int32) : m_X4_lengthOfLine a T = some (nI (cnt (pLi T n a) n), T) := by
  have hn := iv_n h
  unfold m_X4_lengthOfLine
  exact s_lengthOfLine_l h a fu 0 (Nat.zero_le _) (by unfold fu; omega)
end Q2

