/-! QUERIES: what the loops of both sides count -/
section Q
variable {T TM : Tm} {n : Nat}
/-- of a player (or of all), and in some way -/
def ofP (T : Tm) (all : Bool) (p : Int32) (c : Nat) : Bool := all || decide (T 3 c = p)
def pBe (T : Tm) (how : Int32) (all : Bool) (p : Int32) : Nat → Bool := fun c => decide (T 9 c = how) && ofP T all p c
theorem s_isOf (h : Iv T n) (p : Int32) {c : Nat} (hc : c < n) : m_X4_isOf (nI c) p T = some (bI (ofP T (decide (p = (-1))) p c), T) := by
  have hn := iv_n h
  unfold m_X4_isOf m_X4_isOf_15 ofP
  by_cases h1 : p = (-1)
  · simp [h1, bI]
  · rw [if_neg h1]
    simp (disch := omega) only [ib_nI, gd_t, nm_u, cl_nI]
    by_cases h2 : T 3 c = p
    · simp [h1, h2, bI]
    · simp [h1, h2, bI]
theorem s_conkersBeing_l (h : Iv T n) (how p : Int32) : ∀ (m i : Nat), i ≤ n → n - i < m → m_X4_conkersBeing_5 m how p (nI (cnt (pBe T how (decide (p = (-1))) p) i)) (nI i) T = some (nI (cnt (pBe T how (decide (p = (-1))) p) n), T) := by
  have hn := iv_n h
  intro m
  induction m with
  | zero => intro i _ h2; omega
  | succ m ih =>
    intro i hi hm
    rw [m_X4_conkersBeing_5.eq_2, nm_u, iv_N h]
    by_cases hin : n ≤ i
    · have e : i = n := by omega
      subst e
      rw [if_pos (nI_le (Nat.le_refl _) (by omega))]
    · rw [if_neg (nI_ge (by omega) (by omega))]
      have hi' : i < n := by omega
      have st := ih (i + 1) (by omega) (by omega)
      rw [cnt, pBe] at st
      simp (disch := omega) only [ib_nI, gd_t, nm_u, cl_nI, s_isOf h p hi', bnd_s, m_X4_conkersBeing_38, nI_p1]
      by_cases h1 : T 9 i = how
      · rw [if_pos h1]
        cases h2 : ofP T (decide (p = (-1))) p i with
        | true =>
          simp only [h1, h2, decide_true, Bool.and_self, if_true] at st
          simpa [bI, pBe] using st
        | false =>
          simp only [h1, h2, decide_true, Bool.and_false] at st
          simpa [bI, pBe] using st
      · rw [if_neg h1]
        simpa [h1, pBe] using st
theorem s_conkersBeing (h : Iv T n) (how p : Int32) : m_X4_conkersBeing how p T = some (nI (cnt (pBe T how (decide (p = (-1))) p) n), T) := by
  have hn := iv_n h
  unfold m_X4_conkersBeing
  exact s_conkersBeing_l h how p fu 0 (Nat.zero_le _) (by unfold fu; omega)
theorem s_conkersM_l (hn : n ≤ 30) (hR : RS T (TM 1) 0 n) (how p : Int32) : ∀ (m i : Nat), i ≤ n → n - i < m → m_X6_conkers_5 m p how (nI (cnt (pBe T how (decide (p = (-5))) p) i)) (nI i) TM = some (nI (cnt (pBe T how (decide (p = (-5))) p) n), TM) := by
  have e0 := rs_f0 hR
  have e6 := rs_f6 hR
  intro m
  induction m with
  | zero => intro i _ h2; omega
  | succ m ih =>
    intro i hi hm
    rw [m_X6_conkers_5.eq_2, ib0 (by decide) (by decide), gd_t, nm_u, cl0, rs_0 hR]
    by_cases hin : n ≤ i
    · have e : i = n := by omega
      subst e
      rw [if_pos (nI_le (Nat.le_refl _) (by omega))]
    · rw [if_neg (nI_ge (by omega) (by omega))]
      have hi' : i < n := by omega
      have st := ih (i + 1) (by omega) (by omega)
      rw [cnt, pBe] at st
      simp (disch := omega) only [s_at0, bnd_s, nI_p6, ib_nI, gd_t, nm_u, cl_nI, e6, e0, m_X6_conkers_60, m_X6_conkers_56, m_X6_conkers_61, s_flag, nI_p1]
      by_cases h1 : T 9 i = how
      · rw [if_pos h1]
        by_cases h2 : p = (-5)
        · simpa [h1, h2, pBe, ofP, nI_p1] using st
        · rw [if_neg h2]
          by_cases h3 : T 3 i = p
          · simpa [h1, h2, h3, pBe, ofP, nI_p1] using st
          · simpa [h1, h2, h3, pBe, ofP, nI_p1] using st
      · rw [if_neg h1]
        simpa [h1, pBe] using st
theorem s_conkersM (hn : n ≤ 30) (hR : RS T (TM 1) 0 n) (how p : Int32) : m_X6_conkers p how TM = some (nI (cnt (pBe T how (decide (p = (-5))) p) n), TM) := by
  unfold m_X6_conkers
  exact s_conkersM_l hn hR how p fu 0 (Nat.zero_le _) (by unfold fu; omega)
/-- victories -/
def vf (T : Tm) (all : Bool) (p : Int32) : Nat → Int32 := fun c => if ofP T all p c = true then T 7 c else 0
theorem s_victoriesOf_l (h : Iv T n) (p : Int32) : ∀ (m i : Nat), i ≤ n → n - i < m → m_X4_victoriesOf_4 m p (bx_sum (vf T (decide (p = (-1))) p) i) (nI i) T = some (bx_sum (vf T (decide (p = (-1))) p) n, T) := by
  have hn := iv_n h
  intro m
  induction m with
  | zero => intro i _ h2; omega
  | succ m ih =>
    intro i hi hm
    rw [m_X4_victoriesOf_4.eq_2, nm_u, iv_N h]
    by_cases hin : n ≤ i
    · have e : i = n := by omega
      subst e
      rw [if_pos (nI_le (Nat.le_refl _) (by omega))]
    · rw [if_neg (nI_ge (by omega) (by omega))]
      have hi' : i < n := by omega
      have st := ih (i + 1) (by omega) (by omega)
      rw [bx_sum, vf] at st
      simp (disch := omega) only [s_isOf h p hi', bnd_s, m_X4_victoriesOf_30, nI_p1]
      cases h2 : ofP T (decide (p = (-1))) p i with
      | true =>
        simp (disch := omega) only [h2, if_true, ib_nI, gd_t, nm_u, cl_nI] at st ⊢
        simpa [bI, vf] using st
      | false =>
        simp only [h2] at st
        simpa [bI, vf] using st
theorem s_victoriesOf (h : Iv T n) (p : Int32) : m_X4_victoriesOf p T = some (bx_sum (vf T (decide (p = (-1))) p) n, T) := by
  have hn := iv_n h
  unfold m_X4_victoriesOf
  exact s_victoriesOf_l h p fu 0 (Nat.zero_le _) (by unfold fu; omega)
theorem s_victoriesM_l (hn : n ≤ 30) (hR : RS T (TM 1) 0 n) (p : Int32) : ∀ (m i : Nat), i ≤ n → n - i < m → m_X6_victories_4 m p (bx_sum (vf T (decide (p = (-5))) p) i) (nI i) TM = some (bx_sum (vf T (decide (p = (-5))) p) n, TM) := by
  have e0 := rs_f0 hR
  have e4 := rs_f4 hR
  intro m
  induction m with
  | zero => intro i _ h2; omega
  | succ m ih =>
    intro i hi hm
    rw [m_X6_victories_4.eq_2, ib0 (by decide) (by decide), gd_t, nm_u, cl0, rs_0 hR]
    by_cases hin : n ≤ i
    · have e : i = n := by omega
      subst e
      rw [if_pos (nI_le (Nat.le_refl _) (by omega))]
    · rw [if_neg (nI_ge (by omega) (by omega))]
      have hi' : i < n := by omega
      have st := ih (i + 1) (by omega) (by omega)
      rw [bx_sum, vf] at st
      simp (disch := omega) only [s_at0, bnd_s, nI_p4, ib_nI, gd_t, nm_u, cl_nI, e4, e0, m_X6_victories_39, m_X6_victories_52, nI_p1]
      by_cases h2 : p = (-5)
      · simpa [h2, vf, ofP] using st
      · rw [if_neg h2]
        by_cases h3 : T 3 i = p
        · simpa [h2, h3, vf, ofP] using st
        · simpa [h2, h3, vf, ofP] using st
theorem s_victoriesM (hn : n ≤ 30) (hR : RS T (TM 1) 0 n) (p : Int32) : m_X6_victories p TM = some (bx_sum (vf T (decide (p = (-5))) p) n, TM) := by
  unfold m_X6_victories
  exact s_victoriesM_l hn hR p fu 0 (Nat.zero_le _) (by unfold fu; omega)
/-- the conker that a player sends -/
def bst (T : Tm) (p : Int32) : Nat → Int32
  | 0 => (-5)
  | i + 1 => if T 9 i = 0 ∧ T 3 i = p ∧ (bst T p i = (-5) ∨ ¬ T 7 i ≤ T 7 (bst T p i).toNatClampNeg) then nI i else bst T p i
theorem bst_or (T : Tm) (p : Int32) (i : Nat) : bst T p i = (-5) ∨ ∃ j, j < i ∧ bst T p i = nI j ∧ T 9 j = 0 ∧ T 3 j = p := by
  induction i with
  | zero => exact Or.inl rfl
  | succ i ih =>
    rw [bst]
    split
    · rename_i h
      exact Or.inr ⟨i, by omega, rfl, h.1, h.2.1⟩
    · rcases ih with h | ⟨j, h1, h2, h3⟩
      · exact Or.inl h
      · exact Or.inr ⟨j, by omega, h2, h3⟩
theorem lt0_m5 : ((-5) : Int32) < 0 := by decide
theorem s_conkerToSend_l (h : Iv T n) (p : Int32) : ∀ (m i : Nat), i ≤ n → n - i < m → m_X4_conkerToSend_5 m p (bst T p i) (nI i) T = some (bst T p n, T) := by
  have hn := iv_n h
  intro m
  induction m with
  | zero => intro i _ h2; omega
  | succ m ih =>
    intro i hi hm
    rw [m_X4_conkerToSend_5.eq_2, nm_u, iv_N h]
    by_cases hin : n ≤ i
    · have e : i = n := by omega
      subst e
      rw [if_pos (nI_le (Nat.le_refl _) (by omega))]
    · rw [if_neg (nI_ge (by omega) (by omega))]
      have hi' : i < n := by omega
      have st := ih (i + 1) (by omega) (by omega)
      rw [bst] at st
      simp (disch := omega) only [ib_nI, gd_t, nm_u, cl_nI, m_X4_conkerToSend_53, m_X4_conkerToSend_51, nI_p1]
      by_cases h1 : T 9 i = 0
      · by_cases h2 : T 3 i = p
        · rcases bst_or T p i with h3 | ⟨j, hj, h3, -⟩
          · simp only [h1, h2, h3, if_true, true_and, true_or, if_pos lt0_m5] at st ⊢
            exact st
          · have hnm := nI_nem5 (n := j) (by omega)
            have hnp := nI_pos (n := j) (by omega)
            simp (disch := omega) only [h1, h2, h3, if_true, true_and, hnm, false_or, if_neg hnp, ib_nI, gd_t, cl_nI] at st ⊢
            by_cases h4 : T 7 i ≤ T 7 j
            · simp only [h4, not_true_eq_false, if_false, if_true] at st ⊢
              exact st
            · simp only [h4, not_false_eq_true, if_false, if_true] at st ⊢
              exact st
        · simp only [h1, h2, if_true, false_and, and_false, if_false] at st ⊢
          exact st
      · simp only [h1, if_false, false_and] at st ⊢
        exact st
theorem s_conkerToSend (h : Iv T n) (p : Int32) : m_X4_conkerToSend p T = some (bst T p n, T) := by
  have hn := iv_n h
  unfold m_X4_conkerToSend
  exact s_conkerToSend_l h p fu 0 (Nat.zero_le _) (by unfold fu; omega)
theorem s_bestM_l (hn : n ≤ 30) (hR : RS T (TM 1) 0 n) (p : Int32) : ∀ (m i : Nat), i ≤ n → n - i < m → m_X6_best_5 m p (bst T p i) (nI i) TM = some (bst T p n, TM) := by
  have e0 := rs_f0 hR
  have e4 := rs_f4 hR
  have e6 := rs_f6 hR
  intro m
  induction m with
  | zero => intro i _ h2; omega
  | succ m ih =>
    intro i hi hm
    rw [m_X6_best_5.eq_2, ib0 (by decide) (by decide), gd_t, nm_u, cl0, rs_0 hR]
    by_cases hin : n ≤ i
    · have e : i = n := by omega
      subst e
      rw [if_pos (nI_le (Nat.le_refl _) (by omega))]
    · rw [if_neg (nI_ge (by omega) (by omega))]
      have hi' : i < n := by omega
      have st := ih (i + 1) (by omega) (by omega)
      rw [bst] at st
      simp (disch := omega) only [s_at0, bnd_s, nI_p4, nI_p6, ib_nI, gd_t, nm_u, cl_nI, e0, e6, m_X6_best_50, m_X6_best_51, m_X6_best_88, m_X6_best_92, m_X6_best_93, nI_p1]
      by_cases h2 : T 3 i = p
      · by_cases h1 : T 9 i = 0
        · rcases bst_or T p i with h3 | ⟨j, hj, h3, -⟩
          · simp only [h1, h2, h3, if_true, true_and, true_or] at st ⊢
            simpa using st
          · have hnm := nI_nem5 (n := j) (by omega)
            have e4i := e4 i hi'
            have e4j := e4 j (by omega)
            simp (disch := omega) only [h1, h2, h3, if_true, true_and, hnm, false_or, if_false, ib_nI, gd_t, cl_nI, e4i, s_at0, bnd_s, nI_p4, e4j] at st ⊢
            by_cases h4 : T 7 i ≤ T 7 j
            · simp only [h4, not_true_eq_false, if_false, if_true] at st ⊢
              simpa using st
            · simp only [h4, not_false_eq_true, if_false, if_true] at st ⊢
              simpa using st
        · simp only [h1, h2, if_true, false_and, if_false] at st ⊢
          exact st
      · simp only [h2, if_false, false_and, and_false, if_true] at st ⊢
        exact st
theorem s_bestM (hn : n ≤ 30) (hR : RS T (TM 1) 0 n) (p : Int32) : m_X6_best p TM = some (bst T p n, TM) := by
  unfold m_X6_best
  exact s_bestM_l hn hR p fu 0 (Nat.zero_le _) (by unfold fu; omega)
/-- boasts -/
def pBt (T : Tm) : Nat → Bool := fun c => !decide (T 8 c = (-5))
def pBh (T : Tm) : Nat → Bool := fun c => !decide (T 8 c ≤ T 7 c)
theorem s_boastsTold_l (h : Iv T n) : ∀ (m i : Nat), i ≤ n → n - i < m → m_X4_boastsTold_4 m (nI (cnt (pBt T) i)) (nI i) T = some (nI (cnt (pBt T) n), T) := by
  have hn := iv_n h
  intro m
  induction m with
  | zero => intro i _ h2; omega
  | succ m ih =>
    intro i hi hm
    rw [m_X4_boastsTold_4.eq_2, nm_u, iv_N h]
    by_cases hin : n ≤ i
    · have e : i = n := by omega
      subst e
      rw [if_pos (nI_le (Nat.le_refl _) (by omega))]
    · rw [if_neg (nI_ge (by omega) (by omega))]
      have hi' : i < n := by omega
      have st := ih (i + 1) (by omega) (by omega)
      rw [cnt, pBt] at st
      simp (disch := omega) only [ib_nI, gd_t, nm_u, cl_nI, m_X4_boastsTold_26, nI_p1]
      by_cases h1 : T 8 i = (-5)
      · simpa [h1, pBt] using st
      · simpa [h1, pBt] using st
theorem s_boastsTold (h : Iv T n) : m_X4_boastsTold T = some (nI (cnt (pBt T) n), T) := by
  have hn := iv_n h
  unfold m_X4_boastsTold
  exact s_boastsTold_l h fu 0 (Nat.zero_le _) (by unfold fu; omega)
theorem s_boastsTooHigh_l (h : Iv T n) : ∀ (m i : Nat), i ≤ n → n - i < m → m_X4_boastsTooHigh_4 m (nI (cnt (pBh T) i)) (nI i) T = some (nI (cnt (pBh T) n), T) := by
  have hn := iv_n h
  intro m
  induction m with
  | zero => intro i _ h2; omega
  | succ m ih =>
    intro i hi hm
    rw [m_X4_boastsTooHigh_4.eq_2, nm_u, iv_N h]
    by_cases hin : n ≤ i
    · have e : i = n := by omega
      subst e
      rw [if_pos (nI_le (Nat.le_refl _) (by omega))]
    · rw [if_neg (nI_ge (by omega) (by omega))]
      have hi' : i < n := by omega
      have st := ih (i + 1) (by omega) (by omega)
      rw [cnt, pBh] at st
      simp (disch := omega) only [ib_nI, gd_t, nm_u, cl_nI, m_X4_boastsTooHigh_30, nI_p1]
      by_cases h1 : T 8 i ≤ T 7 i
      · simpa [h1, pBh] using st
      · simpa [h1, pBh] using st
theorem s_boastsTooHigh (h : Iv T n) : m_X4_boastsTooHigh T = some (nI (cnt (pBh T) n), T) := by
  have hn := iv_n h
  unfold m_X4_boastsTooHigh
  exact s_boastsTooHigh_l h fu 0 (Nat.zero_le _) (by unfold fu; omega)
/-- victories are numbers of 0 and more -/
theorem iv_vle (h : Iv T n) {c : Nat} (hc : c < n) : ∃ j, j ≤ 30 ∧ T 7 c = nI j := by
  obtain ⟨v, l, h1, h2, h3⟩ := iv_v h
  have h4 := sm_one (v := v) hc
  have h5 := cnt_le (nby T) n
  have h6 := iv_n h
  exact ⟨v c, by omega, h1 c hc⟩
theorem s_boastsM_l (h : Iv T n) (hR : RS T (TM 1) 0 n) (e : Int32) : ∀ (m i : Nat), i ≤ n → n - i < m → m_X6_boasts_4 m e (nI (cnt (if e = 0 then pBt T else pBh T) i)) (nI i) TM = some (nI (cnt (if e = 0 then pBt T else pBh T) n), TM) := by
  have hn := iv_n h
  have e4 := rs_f4 hR
  have e5 := rs_f5 hR
  intro m
  induction m with
  | zero => intro i _ h2; omega
  | succ m ih =>
    intro i hi hm
    rw [m_X6_boasts_4.eq_2, ib0 (by decide) (by decide), gd_t, nm_u, cl0, rs_0 hR]
    by_cases hin : n ≤ i
    · have e : i = n := by omega
      subst e
      rw [if_pos (nI_le (Nat.le_refl _) (by omega))]
    · rw [if_neg (nI_ge (by omega) (by omega))]
      have hi' : i < n := by omega
      have st := ih (i + 1) (by omega) (by omega)
      rw [cnt] at st
      obtain ⟨j, hj, ej⟩ := iv_vle h hi'
      have hm5 : ((-5) : Int32) ≤ nI j := by
        rw [Int32.le_iff_toInt_le, nI_toInt (by omega)]
        have : ((-5) : Int32).toInt = -5 := by decide
        omega
      simp (disch := omega) only [s_at0, bnd_s, nI_p4, nI_p5, ib_nI, gd_t, nm_u, cl_nI, e4, e5, m_X6_boasts_61, m_X6_boasts_65, m_X6_boasts_66, s_flag, nI_p1]
      by_cases h0 : e = 0
      · by_cases h1 : T 8 i = (-5)
        · simpa [h0, h1, pBt, nI_p1] using st
        · simpa [h0, h1, pBt, nI_p1] using st
      · by_cases h1 : T 8 i = (-5)
        · simpa [h0, h1, pBh, nI_p1, ej, hm5] using st
        · by_cases h2 : T 8 i ≤ T 7 i
          · simpa [h0, h1, h2, pBh, nI_p1] using st
          · simpa [h0, h1, h2, pBh, nI_p1] using st
theorem s_boastsM (h : Iv T n) (hR : RS T (TM 1) 0 n) (e : Int32) : m_X6_boasts e TM = some (nI (cnt (if e = 0 then pBt T else pBh T) n), TM) := by
  have hn := iv_n h
  unfold m_X6_boasts
  exact s_boastsM_l h hR e fu 0 (Nat.zero_le _) (by unfold fu; omega)
end Q
