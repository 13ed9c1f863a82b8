/-! keep and records; bringBack and undo -/
theorem sn_fr2 {M M' : Mm} {TM TM' : Tm} (a2 : M' 0 0 7 = M 0 0 7) (a3 : M' 2 = M 2) (b2 : TM' 0 2 = TM 0 2) (b5 : ∀ x, 1536 ≤ x → x < 1792 → TM' 1 x = TM 1 x) (h : SnR M TM) : SnR M' TM' := by
  rcases h with ⟨h, h'⟩ | ⟨h, h', n, i1, i2⟩
  · exact Or.inl ⟨a2.trans h, b2.trans h'⟩
  · exact Or.inr ⟨a2.trans h, b2.trans h', n, by rw [a3]; exact i1, by rw [a3]; exact rs_cong (iv_n i1) (fun i hi => b5 _ (by omega) (by omega)) i2⟩
theorem tx_fr2 {M M' : Mm} {TM TM' : Tm} {L : Nat} (a5 : M' 9 = M 9) (b3 : TM' 0 4 = TM 0 4) (b4 : TM' 2 = TM 2) (h : TxR M TM L) : TxR M' TM' L := by
  obtain ⟨c1, c2, c3, c4⟩ := h
  exact ⟨c1, by rw [a5]; exact c2, b3.trans c3, fun j hj => by rw [a5, b4]; exact c4 j hj⟩
theorem sb_nI {b : Nat} (h1 : 4 ≤ b) (h2 : b ≤ 8) : sb (nI b) = true := by
  unfold sb
  rw [cl_nI (by omega)]
  have e1 : 1 ≤ b := by omega
  simp [e1, h2]
section KEEP
variable {M : Mm} {TM : Tm} {h n : Nat} {β : Nat → Nat}
theorem h_push (hh : h < 5) (hH : HiR M TM h β) (hN : Now M TM n) : ∃ (M' : Mm) (TM' : Tm), m_X1_keep_12 M = some (0, M') ∧ m_X6_records_39 TM = some (0, TM') ∧ HiR M' TM' (h + 1) β ∧ (∀ q, q ≠ 12 → ¬ (4 ≤ q ∧ q ≤ 8) → M' q = M q) ∧ (∀ q, q ≠ 0 → q ≠ 1 → TM' q = TM q) ∧ (∀ j, j ≠ 1 → TM' 0 j = TM 0 j) ∧ (∀ x, x < 256 ∨ 1536 ≤ x → TM' 1 x = TM 1 x) := by
  obtain ⟨c1, c2, c3, c4, c5, c6⟩ := hH
  obtain ⟨b1, b2, b3⟩ := c4 h hh
  obtain ⟨hI, hR⟩ := hN
  have hn := iv_n hI
  have hne : (1 : Nat) ≠ β h := by omega
  have hne2 : (12 : Nat) ≠ β h := by omega
  refine ⟨uM (uM M (β h) (cpT (M (β h)) (M 1))) 12 (wT (M 12) 0 1 (nI (h + 1))), sS (wT TM 0 1 (nI (h + 1))) (cpM (TM 1) 0 (h + 1)), ?_, ?_, ⟨by omega, ?_, ?_, ?_, c5, ?_⟩, ?_, ?_, ?_, ?_⟩
  · unfold m_X1_keep_12
    rw [nm_u, c2, ib_nI hh (by decide), gd_t, nm_u, cl_nI (by omega), b1, sb_nI b2 b3, gd_t, cl_nI (by omega), s_copyFrom hne, bnd_s, nm_u, nm_u]
    unfold wM
    rw [uM_ne _ _ _ hne2, c2, nI_p1]
  · unfold m_X6_records_39
    have e : (wT TM 0 1 (nI (h + 1))) 1 = TM 1 := wT_ne _ _ _ (by decide)
    have h0 : (0 : Int32) = nI 0 := rfl
    rw [nm_u, c3, nI_p1, nm_u, nm_u, wT_ss]
    rw [h0]
    rw [s_copies (f := 0) (t := h + 1) (by decide) (by omega) (by omega), bnd_s, e]
  · rw [uM_same, wT_ss]
  · show (sS (wT TM 0 1 (nI (h + 1))) (cpM (TM 1) 0 (h + 1))) 0 1 = _
    rw [sS_n _ _ (by decide), wT_ss]
  · intro j hj
    rw [uM_same, wT_ne _ _ _ (by decide)]
    exact c4 j hj
  · intro j hj
    have bj := c4 j (by omega)
    have hj12 : β j ≠ 12 := by omega
    rw [uM_ne _ _ _ hj12, sS_1]
    by_cases hjh : j = h
    · subst hjh
      rw [uM_same]
      refine ⟨n, ag_Iv (cp_Ag _ _) hI, ag_RS hn (cp_Ag _ _) ?_⟩
      refine rs_cong hn (fun i hi => ?_) hR
      rw [cp_in hi]
    · have hbj : β j ≠ β h := fun e => hjh (c5 j h (by omega) hh e)
      rw [uM_ne _ _ _ hbj]
      obtain ⟨nj, i1, i2⟩ := c6 j (by omega)
      refine ⟨nj, i1, rs_cong (iv_n i1) (fun i hi => ?_) i2⟩
      rw [cp_out (by omega)]
  · intro q q1 q2
    have hqb : q ≠ β h := fun e => q2 (by omega)
    rw [uM_ne _ _ _ q1, uM_ne _ _ _ hqb]
  · intro q q1 q2
    rw [sS_n _ _ q2, wT_ne _ _ _ q1]
  · intro j hj
    rw [sS_n _ _ (by decide), wT_sn _ _ _ hj]
  · intro x hx
    rw [sS_1, cp_out (by omega)]
theorem fu5 : fu = 995 + 5 := rfl
theorem s_drop (T : Tm) (hb : ∀ j, j < 5 → T 1 j = nI (β j) ∧ 4 ≤ β j ∧ β j ≤ 8) (h5 : T 0 1 = nI 5) : ∃ T' : Tm, m_X1_dropOldest T = some (0, T') ∧ T' 0 1 = nI 4 ∧ ∀ j, j < 5 → T' 1 j = nI (if j = 4 then β 0 else β (j + 1)) := by
  obtain ⟨a0, l0, u0⟩ := hb 0 (by decide)
  obtain ⟨a1, l1, u1⟩ := hb 1 (by decide)
  obtain ⟨a2, l2, u2⟩ := hb 2 (by decide)
  obtain ⟨a3, l3, u3⟩ := hb 3 (by decide)
  obtain ⟨a4, l4, u4⟩ := hb 4 (by decide)
  have c1 : ¬ ((5 : Int32) ≤ 1) := by decide
  have c2 : ¬ ((5 : Int32) ≤ 1 + 1) := by decide
  have c3 : ¬ ((5 : Int32) ≤ 1 + 1 + 1) := by decide
  have c4 : ¬ ((5 : Int32) ≤ 1 + 1 + 1 + 1) := by decide
  have c5 : (5 : Int32) ≤ 1 + 1 + 1 + 1 + 1 := by decide
  have i1 : ib 1 5 = true := by decide
  have i2 : ib (1 + 1) 5 = true := by decide
  have i3 : ib (1 + 1 + 1) 5 = true := by decide
  have i4 : ib (1 + 1 + 1 + 1) 5 = true := by decide
  have d1 : ib (1 - 1) 5 = true := by decide
  have d2 : ib (1 + 1 - 1) 5 = true := by decide
  have d3 : ib (1 + 1 + 1 - 1) 5 = true := by decide
  have d4 : ib (1 + 1 + 1 + 1 - 1) 5 = true := by decide
  have t1 : (1 : Int32).toNatClampNeg = 1 := by decide
  have t2 : ((1 : Int32) + 1).toNatClampNeg = 2 := by decide
  have t3 : ((1 : Int32) + 1 + 1).toNatClampNeg = 3 := by decide
  have t4 : ((1 : Int32) + 1 + 1 + 1).toNatClampNeg = 4 := by decide
  have e1 : ((1 : Int32) - 1).toNatClampNeg = 0 := by decide
  have e2 : ((1 : Int32) + 1 - 1).toNatClampNeg = 1 := by decide
  have e3 : ((1 : Int32) + 1 + 1 - 1).toNatClampNeg = 2 := by decide
  have e4 : ((1 : Int32) + 1 + 1 + 1 - 1).toNatClampNeg = 3 := by decide
  have f4 : (4 : Int32).toNatClampNeg = 4 := by decide
  have g4 : ib 4 5 = true := by decide
  have g0 : ib 0 5 = true := by decide
  refine ⟨wT (wT (wT (wT (wT (wT T 1 0 (nI (β 1))) 1 1 (nI (β 2))) 1 2 (nI (β 3))) 1 3 (nI (β 4))) 1 4 (nI (β 0))) 0 1 (nI 4), ?_, ?_, ?_⟩
  · unfold m_X1_dropOldest
    rw [g0, gd_t, nm_u, cl0, a0, fu5]
    rw [m_X1_dropOldest_9.eq_2, if_neg c1, i1, gd_t, nm_u, t1, a1, sb_nI l1 u1, gd_t, d1, gd_t, nm_u, e1]
    rw [m_X1_dropOldest_9.eq_2, if_neg c2, i2, gd_t, nm_u, t2, wT_sn _ _ _ (by decide), a2, sb_nI l2 u2, gd_t, d2, gd_t, nm_u, e2]
    rw [m_X1_dropOldest_9.eq_2, if_neg c3, i3, gd_t, nm_u, t3, wT_sn _ _ _ (by decide), wT_sn _ _ _ (by decide), a3, sb_nI l3 u3, gd_t, d3, gd_t, nm_u, e3]
    rw [m_X1_dropOldest_9.eq_2, if_neg c4, i4, gd_t, nm_u, t4, wT_sn _ _ _ (by decide), wT_sn _ _ _ (by decide), wT_sn _ _ _ (by decide), a4, sb_nI l4 u4, gd_t, d4, gd_t, nm_u, e4]
    rw [m_X1_dropOldest_9.eq_2, if_pos c5, sb_nI l0 u0, gd_t, g4, gd_t, nm_u, f4, nm_u, nm_u]
    simp (disch := omega) only [wT_n]
    rw [h5]
    rfl
  · rw [wT_ss]
  · intro j hj
    have hj2 : j = 0 ∨ j = 1 ∨ j = 2 ∨ j = 3 ∨ j = 4 := by omega
    rcases hj2 with rfl | rfl | rfl | rfl | rfl <;> simp [wT_get]
theorem fu5' : fu = 995 + 1 + 1 + 1 + 1 + 1 := rfl
/-- the reference's shift of five states -/
def shM4 (s : Nat → Int32) : Nat → Int32 := cpM (cpM (cpM (cpM s 2 1) 3 2) 4 3) 5 4
theorem s_shift (h5 : TM 0 1 = nI 5) : m_X6_records TM = m_X6_records_39 (wT (sS TM (shM4 (TM 1))) 0 1 (nI 4)) := by
  have c1 : ¬ ((5 : Int32) ≤ 1) := by decide
  have c2 : ¬ ((5 : Int32) ≤ 1 + 1) := by decide
  have c3 : ¬ ((5 : Int32) ≤ 1 + 1 + 1) := by decide
  have c4 : ¬ ((5 : Int32) ≤ 1 + 1 + 1 + 1) := by decide
  have c5 : (5 : Int32) ≤ 1 + 1 + 1 + 1 + 1 := by decide
  have k1 : (1 : Int32) = nI 1 := rfl
  have k2 : (1 : Int32) + 1 = nI 2 := by decide
  have k3 : (1 : Int32) + 1 + 1 = nI 3 := by decide
  have k4 : (1 : Int32) + 1 + 1 + 1 = nI 4 := by decide
  have k5 : (1 : Int32) + 1 + 1 + 1 + 1 = nI 5 := by decide
  have s1 : m_X6_copies (1 + 1) 1 TM = some (0, sS TM (cpM (TM 1) 2 1)) := by
    have := s_copies (f := 2) (t := 1) (by decide) (by decide) (by decide) TM
    rw [← k2, ← k1] at this
    exact this
  have s2 : ∀ s, m_X6_copies (1 + 1 + 1) (1 + 1) (sS TM s) = some (0, sS TM (cpM s 3 2)) := fun s => by
    have := s_copies (f := 3) (t := 2) (by decide) (by decide) (by decide) (sS TM s)
    rw [← k3, ← k2, sS_1, sS_sS] at this
    exact this
  have s3 : ∀ s, m_X6_copies (1 + 1 + 1 + 1) (1 + 1 + 1) (sS TM s) = some (0, sS TM (cpM s 4 3)) := fun s => by
    have := s_copies (f := 4) (t := 3) (by decide) (by decide) (by decide) (sS TM s)
    rw [← k4, ← k3, sS_1, sS_sS] at this
    exact this
  have s4 : ∀ s, m_X6_copies (1 + 1 + 1 + 1 + 1) (1 + 1 + 1 + 1) (sS TM s) = some (0, sS TM (cpM s 5 4)) := fun s => by
    have := s_copies (f := 5) (t := 4) (by decide) (by decide) (by decide) (sS TM s)
    rw [← k5, ← k4, sS_1, sS_sS] at this
    exact this
  have e5 : nI 5 = (5 : Int32) := rfl
  unfold m_X6_records
  rw [nm_u, h5, e5, if_pos rfl, fu5]
  rw [m_X6_records_10.eq_2, if_neg c1, s1, bnd_s]
  rw [m_X6_records_10.eq_2, if_neg c2, s2, bnd_s]
  rw [m_X6_records_10.eq_2, if_neg c3, s3, bnd_s]
  rw [m_X6_records_10.eq_2, if_neg c4, s4, bnd_s]
  rw [m_X6_records_10.eq_2, if_pos c5, nm_u, nm_u]
  rw [sS_n _ _ (by decide), h5]
  rfl
theorem h_shift (hH : HiR M TM 5 β) : ∃ T' : Tm, m_X1_dropOldest (M 12) = some (0, T') ∧ HiR (uM M 12 T') (wT (sS TM (shM4 (TM 1))) 0 1 (nI 4)) 4 (fun j => if j = 4 then β 0 else β (j + 1)) := by
  obtain ⟨c1, c2, c3, c4, c5, c6⟩ := hH
  obtain ⟨T', e1, e2, e3⟩ := s_drop (M 12) c4 c2
  refine ⟨T', e1, by decide, by rw [uM_same]; exact e2, by rw [wT_ss], fun j hj => ?_, fun i j hi hj he => ?_, fun j hj => ?_⟩
  · rw [uM_same]
    refine ⟨e3 j hj, ?_⟩
    by_cases h4 : j = 4
    · simp only [h4, if_true]; exact (c4 0 (by decide)).2
    · simp only [h4, if_false]; exact (c4 (j + 1) (by omega)).2
  · by_cases h4 : i = 4 <;> by_cases h4' : j = 4
    · omega
    · simp only [h4, h4', if_true, if_false] at he
      have := c5 0 (j + 1) (by decide) (by omega) he
      omega
    · simp only [h4, h4', if_true, if_false] at he
      have := c5 (i + 1) 0 (by omega) (by decide) he
      omega
    · simp only [h4, h4', if_false] at he
      have := c5 (i + 1) (j + 1) (by omega) (by omega) he
      omega
  · have h4 : ¬ j = 4 := by omega
    simp only [h4, if_false]
    have bj := c4 (j + 1) (by omega)
    obtain ⟨n, i1, i2⟩ := c6 (j + 1) (by omega)
    rw [uM_ne _ _ _ (by omega : β (j + 1) ≠ 12), wT_ne _ _ _ (by decide), sS_1]
    refine ⟨n, i1, rs_cong (iv_n i1) (fun i hi => ?_) i2⟩
    unfold shM4
    have hj2 : j = 0 ∨ j = 1 ∨ j = 2 ∨ j = 3 := by omega
    rcases hj2 with rfl | rfl | rfl | rfl
    · rw [cp_out (by omega), cp_out (by omega), cp_out (by omega)]
      have := cp_in (s := TM 1) (f := 2) (t := 1) hi
      exact this
    · rw [cp_out (by omega), cp_out (by omega)]
      have := cp_in (s := cpM (TM 1) 2 1) (f := 3) (t := 2) hi
      exact this.trans (cp_out (by omega))
    · rw [cp_out (by omega)]
      have := cp_in (s := cpM (cpM (TM 1) 2 1) 3 2) (f := 4) (t := 3) hi
      exact this.trans ((cp_out (by omega)).trans (cp_out (by omega)))
    · have := cp_in (s := cpM (cpM (cpM (TM 1) 2 1) 3 2) 4 3) (f := 5) (t := 4) hi
      exact this.trans ((cp_out (by omega)).trans ((cp_out (by omega)).trans (cp_out (by omega))))
/-- what keep and records keep -/
def KF (M M' : Mm) (TM TM' : Tm) : Prop := (∀ q, q ≠ 12 → ¬ (4 ≤ q ∧ q ≤ 8) → M' q = M q) ∧ (∀ q, q ≠ 0 → q ≠ 1 → TM' q = TM q) ∧ (∀ j, j ≠ 1 → TM' 0 j = TM 0 j) ∧ (∀ x, x < 256 → TM' 1 x = TM 1 x)
theorem s_keep (hN : Now M TM n) (hr : Rst M TM) : ∃ (M' : Mm) (TM' : Tm), m_X1_keep M = some (0, M') ∧ m_X6_records TM = some (0, TM') ∧ Now M' TM' n ∧ Rst M' TM' ∧ KF M M' TM TM' := by
  obtain ⟨⟨h, β, hH⟩, hS, L, hT⟩ := hr
  have c1 := hH.1
  have c2 := hH.2.1
  have c3 := hH.2.2.1
  have fin : ∀ (M' : Mm) (TM' : Tm) (h' : Nat) (β' : Nat → Nat), HiR M' TM' h' β' → (∀ q, q ≠ 12 → ¬ (4 ≤ q ∧ q ≤ 8) → M' q = M q) → (∀ q, q ≠ 0 → q ≠ 1 → TM' q = TM q) → (∀ j, j ≠ 1 → TM' 0 j = TM 0 j) → (∀ x, x < 256 ∨ 1536 ≤ x → TM' 1 x = TM 1 x) → Now M' TM' n ∧ Rst M' TM' ∧ KF M M' TM TM' := by
    intro M' TM' h' β' hH' g1 g2 g3 g4
    have m1 : M' 1 = M 1 := g1 1 (by decide) (by omega)
    refine ⟨⟨by rw [m1]; exact hN.1, by rw [m1]; exact rs_cong (iv_n hN.1) (fun i hi => g4 _ (by omega)) hN.2⟩, ⟨⟨h', β', hH'⟩, ?_, L, ?_⟩, g1, g2, g3, fun x hx => g4 x (Or.inl hx)⟩
    · exact sn_fr2 (by rw [g1 0 (by decide) (by omega)]) (g1 2 (by decide) (by omega)) (g3 2 (by decide)) (fun x hx _ => g4 x (Or.inr hx)) hS
    · exact tx_fr2 (g1 9 (by decide) (by omega)) (g3 4 (by decide)) (g2 2 (by decide) (by decide)) hT
  by_cases hlt : h < 5
  · obtain ⟨M', TM', e1, e2, e3, g1, g2, g3, g4⟩ := h_push hlt hH hN
    refine ⟨M', TM', ?_, ?_, fin M' TM' (h + 1) β e3 g1 g2 g3 g4⟩
    · unfold m_X1_keep
      have c : nI h < 5 := nI_lt (b := 5) hlt (by decide)
      rw [nm_u, c2, if_pos c]
      exact e1
    · unfold m_X6_records
      have c : ¬ nI h = 5 := fun e => by
        have := nI_inj (b := 5) (by omega) (by decide) e
        omega
      rw [nm_u, c3, if_neg c]
      exact e2
  · have e5 : h = 5 := by omega
    subst e5
    obtain ⟨T', d1, d2⟩ := h_shift hH
    have hN2 : Now (uM M 12 T') (wT (sS TM (shM4 (TM 1))) 0 1 (nI 4)) n := by
      refine ⟨by rw [uM_ne _ _ _ (by decide)]; exact hN.1, ?_⟩
      rw [uM_ne _ _ _ (by decide), wT_ne _ _ _ (by decide), sS_1]
      refine rs_cong (iv_n hN.1) (fun i hi => ?_) hN.2
      unfold shM4
      rw [cp_out (by omega), cp_out (by omega), cp_out (by omega), cp_out (by omega)]
    obtain ⟨M', TM', e1, e2, e3, g1, g2, g3, g4⟩ := h_push (by decide) d2 hN2
    refine ⟨M', TM', ?_, ?_, fin M' TM' 5 _ e3 (fun q q1 q2 => ?_) (fun q q1 q2 => ?_) (fun j hj => ?_) (fun x hx => ?_)⟩
    · unfold m_X1_keep
      have c : ¬ nI 5 < 5 := by decide
      rw [nm_u, c2, if_neg c, d1, bnd_s, nm_u]
      exact e1
    · rw [s_shift c3]
      exact e2
    · rw [g1 q q1 q2, uM_ne _ _ _ q1]
    · rw [g2 q q1 q2, wT_ne _ _ _ q1, sS_n _ _ q2]
    · rw [g3 j hj, wT_sn _ _ _ hj, sS_n _ _ (by decide)]
    · rw [g4 x hx, wT_ne _ _ _ (by decide), sS_1]
      unfold shM4
      rw [cp_out (by omega), cp_out (by omega), cp_out (by omega), cp_out (by omega)]
end KEEP
