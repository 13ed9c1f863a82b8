/-! THE WHOLE MEMORY: what is told, and the history -/
theorem nlt {a b : Nat} (h : b ≤ a) (ha : a < 2 ^ 31) : ¬ nI a < nI b := fun e => i_lt_nle.mp e (nI_le h ha)
theorem nn0 {a : Nat} (ha : a < 2 ^ 31) : ¬ nI a < 0 := nlt (b := 0) (Nat.zero_le _) ha
section TOLD
variable {M : Mm} {n : Nat}
/-- what count tells of a state -/
def cvl (T : Tm) (n : Nat) : Nat → Int32 := fun w =>
  if w = 0 then nI n else if w = 1 then nI (cnt (pBe T 0 true (-1)) n) else if w = 2 then nI (cnt (pBe T 1 true (-1)) n) else if w = 3 then nI (cnt (pBe T 2 true (-1)) n) else if w = 4 then bx_sum (vf T true (-1)) n else if w = 5 then T 0 11 else if w = 6 then T 0 12 else if w = 7 then nI (cnt (nby T) n) else if w = 8 then nI (cnt (pBt T) n) else nI (cnt (pBh T) n)
theorem q_count (h : Iv (M 1) n) (w : Nat) (hw : w < 10) : m_X5_count (nI w) M = some (cvl (M 1) n w, M) := by
  have hw2 : w = 0 ∨ w = 1 ∨ w = 2 ∨ w = 3 ∨ w = 4 ∨ w = 5 ∨ w = 6 ∨ w = 7 ∨ w = 8 ∨ w = 9 := by omega
  unfold m_X5_count cvl
  rcases hw2 with rfl | rfl | rfl | rfl | rfl | rfl | rfl | rfl | rfl | rfl
  · rw [if_pos (by decide), nm_u, iv_N h]; rfl
  · rw [if_neg (by decide), if_pos (by decide), s_conkersBeing h, bnd_s, nm_u, uM_self, d11]; rfl
  · rw [if_neg (by decide), if_neg (by decide), if_pos (by decide), s_conkersBeing h, bnd_s, nm_u, uM_self, d11]; rfl
  · rw [if_neg (by decide), if_neg (by decide), if_neg (by decide), if_pos (by decide), s_conkersBeing h, bnd_s, nm_u, uM_self, d11]; rfl
  · rw [if_neg (by decide), if_neg (by decide), if_neg (by decide), if_neg (by decide), if_pos (by decide), s_victoriesOf h, bnd_s, nm_u, uM_self, d11]; rfl
  · rw [if_neg (by decide), if_neg (by decide), if_neg (by decide), if_neg (by decide), if_neg (by decide), if_pos (by decide), nm_u]; rfl
  · rw [if_neg (by decide), if_neg (by decide), if_neg (by decide), if_neg (by decide), if_neg (by decide), if_neg (by decide), if_pos (by decide), nm_u]; rfl
  · rw [if_neg (by decide), if_neg (by decide), if_neg (by decide), if_neg (by decide), if_neg (by decide), if_neg (by decide), if_neg (by decide), if_pos (by decide), s_withHeir h, bnd_s, nm_u, uM_self]; rfl
  · rw [if_neg (by decide), if_neg (by decide), if_neg (by decide), if_neg (by decide), if_neg (by decide), if_neg (by decide), if_neg (by decide), if_neg (by decide), if_pos (by decide), s_boastsTold h, bnd_s, nm_u, uM_self]; rfl
  · rw [if_neg (by decide), if_neg (by decide), if_neg (by decide), if_neg (by decide), if_neg (by decide), if_neg (by decide), if_neg (by decide), if_neg (by decide), if_neg (by decide), if_pos (by decide), s_boastsTooHigh h, bnd_s, nm_u, uM_self]; rfl
theorem c_0 (h : Iv (M 1) n) : m_X5_count 0 M = some (nI n, M) := q_count h 0 (by decide)
theorem c_1 (h : Iv (M 1) n) : m_X5_count 1 M = some (nI (cnt (pBe (M 1) 0 true (-1)) n), M) := q_count h 1 (by decide)
theorem c_2 (h : Iv (M 1) n) : m_X5_count 2 M = some (nI (cnt (pBe (M 1) 1 true (-1)) n), M) := q_count h 2 (by decide)
theorem c_3 (h : Iv (M 1) n) : m_X5_count 3 M = some (nI (cnt (pBe (M 1) 2 true (-1)) n), M) := q_count h 3 (by decide)
theorem c_4 (h : Iv (M 1) n) : m_X5_count 4 M = some (bx_sum (vf (M 1) true (-1)) n, M) := q_count h 4 (by decide)
theorem c_5 (h : Iv (M 1) n) : m_X5_count 5 M = some (M 1 0 11, M) := q_count h 5 (by decide)
theorem c_6 (h : Iv (M 1) n) : m_X5_count 6 M = some (M 1 0 12, M) := q_count h 6 (by decide)
theorem c_7 (h : Iv (M 1) n) : m_X5_count 7 M = some (nI (cnt (nby (M 1)) n), M) := q_count h 7 (by decide)
theorem c_8 (h : Iv (M 1) n) : m_X5_count 8 M = some (nI (cnt (pBt (M 1)) n), M) := q_count h 8 (by decide)
theorem c_9 (h : Iv (M 1) n) : m_X5_count 9 M = some (nI (cnt (pBh (M 1)) n), M) := q_count h 9 (by decide)
theorem c_10 (M : Mm) : m_X5_count 10 M = some (M 12 0 1, M) := by
  unfold m_X5_count
  rw [if_neg (by decide), if_neg (by decide), if_neg (by decide), if_neg (by decide), if_neg (by decide), if_neg (by decide), if_neg (by decide), if_neg (by decide), if_neg (by decide), if_neg (by decide), if_pos (by decide), nm_u]
/-- what conker tells -/
def kvl (T : Tm) (n c : Nat) : Nat → Int32 := fun f => if f < 8 then T (3 + f) c else nI (cnt (pHe T (nI c)) n)
theorem q_conker (h : Iv (M 1) n) {c : Nat} (hc : c < n) (f : Nat) (hf : f < 9) : m_X5_conker (nI c) (nI f) M = some (kvl (M 1) n c f, M) := by
  have hn := iv_n h
  have hf2 : f = 0 ∨ f = 1 ∨ f = 2 ∨ f = 3 ∨ f = 4 ∨ f = 5 ∨ f = 6 ∨ f = 7 ∨ f = 8 := by omega
  unfold m_X5_conker kvl
  rw [s_hasConker h, bnd_s, nm_u, uM_self, hC_nI hc (by omega), bf_t, ib_nI (show c < 30 by omega) (by decide), cl_nI (show c < 2 ^ 31 by omega)]
  simp only [gd_t, nm_u]
  rcases hf2 with rfl | rfl | rfl | rfl | rfl | rfl | rfl | rfl | rfl
  · rw [if_pos (by decide)]; rfl
  · rw [if_neg (by decide), if_pos (by decide)]; rfl
  · rw [if_neg (by decide), if_neg (by decide), if_pos (by decide)]; rfl
  · rw [if_neg (by decide), if_neg (by decide), if_neg (by decide), if_pos (by decide)]; rfl
  · rw [if_neg (by decide), if_neg (by decide), if_neg (by decide), if_neg (by decide), if_pos (by decide)]; rfl
  · rw [if_neg (by decide), if_neg (by decide), if_neg (by decide), if_neg (by decide), if_neg (by decide), if_pos (by decide)]; rfl
  · rw [if_neg (by decide), if_neg (by decide), if_neg (by decide), if_neg (by decide), if_neg (by decide), if_neg (by decide), if_pos (by decide)]; rfl
  · rw [if_neg (by decide), if_neg (by decide), if_neg (by decide), if_neg (by decide), if_neg (by decide), if_neg (by decide), if_neg (by decide), if_pos (by decide)]; rfl
  · rw [if_neg (by decide), if_neg (by decide), if_neg (by decide), if_neg (by decide), if_neg (by decide), if_neg (by decide), if_neg (by decide), if_neg (by decide), if_pos (by decide), s_smashedBy h, bnd_s, uM_self]; rfl
theorem k_0 (h : Iv (M 1) n) {c : Nat} (hc : c < n) : m_X5_conker (nI c) 0 M = some (M 1 3 c, M) := q_conker h hc 0 (by decide)
theorem k_2 (h : Iv (M 1) n) {c : Nat} (hc : c < n) : m_X5_conker (nI c) 2 M = some (M 1 5 c, M) := q_conker h hc 2 (by decide)
theorem k_3 (h : Iv (M 1) n) {c : Nat} (hc : c < n) : m_X5_conker (nI c) 3 M = some (M 1 6 c, M) := q_conker h hc 3 (by decide)
theorem k_4 (h : Iv (M 1) n) {c : Nat} (hc : c < n) : m_X5_conker (nI c) 4 M = some (M 1 7 c, M) := q_conker h hc 4 (by decide)
theorem k_5 (h : Iv (M 1) n) {c : Nat} (hc : c < n) : m_X5_conker (nI c) 5 M = some (M 1 8 c, M) := q_conker h hc 5 (by decide)
theorem k_6 (h : Iv (M 1) n) {c : Nat} (hc : c < n) : m_X5_conker (nI c) 6 M = some (M 1 9 c, M) := q_conker h hc 6 (by decide)
theorem k_7 (h : Iv (M 1) n) {c : Nat} (hc : c < n) : m_X5_conker (nI c) 7 M = some (M 1 10 c, M) := q_conker h hc 7 (by decide)
theorem k_8 (h : Iv (M 1) n) {c : Nat} (hc : c < n) : m_X5_conker (nI c) 8 M = some (nI (cnt (pHe (M 1) (nI c)) n), M) := q_conker h hc 8 (by decide)
/-- what player tells -/
def pvl (T : Tm) (n p : Nat) : Nat → Int32 := fun f => if f = 0 then T 1 p else if f = 1 then T 2 p else if f = 2 then nI (cnt (pBe T 0 false (nI p)) n) else if f = 3 then nI (cnt (pBe T 1 false (nI p)) n) else if f = 4 then nI (cnt (pBe T 2 false (nI p)) n) else if f = 5 then bx_sum (vf T false (nI p)) n else bst T (nI p) n
theorem q_player (h : Iv (M 1) n) {p : Nat} (hp : p < 6) (f : Nat) (hf : f < 7) : m_X5_player (nI p) (nI f) M = some (pvl (M 1) n p f, M) := by
  obtain ⟨p1, p5⟩ := all_p p hp
  have hf2 : f = 0 ∨ f = 1 ∨ f = 2 ∨ f = 3 ∨ f = 4 ∨ f = 5 ∨ f = 6 := by omega
  unfold m_X5_player pvl
  rw [s_isPlayer, bnd_s, hC_nI hp (by decide), bf_t, ib_nI hp (by decide), cl_nI (show p < 2 ^ 31 by omega)]
  simp only [gd_t, nm_u]
  rcases hf2 with rfl | rfl | rfl | rfl | rfl | rfl | rfl
  · rw [if_pos (by decide)]; rfl
  · rw [if_neg (by decide), if_pos (by decide)]; rfl
  · rw [if_neg (by decide), if_neg (by decide), if_pos (by decide), s_conkersBeing h, bnd_s, uM_self, p1]; rfl
  · rw [if_neg (by decide), if_neg (by decide), if_neg (by decide), if_pos (by decide), s_conkersBeing h, bnd_s, uM_self, p1]; rfl
  · rw [if_neg (by decide), if_neg (by decide), if_neg (by decide), if_neg (by decide), if_pos (by decide), s_conkersBeing h, bnd_s, uM_self, p1]; rfl
  · rw [if_neg (by decide), if_neg (by decide), if_neg (by decide), if_neg (by decide), if_neg (by decide), if_pos (by decide), s_victoriesOf h, bnd_s, uM_self, p1]; rfl
  · rw [if_neg (by decide), if_neg (by decide), if_neg (by decide), if_neg (by decide), if_neg (by decide), if_neg (by decide), if_pos (by decide), s_conkerToSend h, bnd_s, uM_self]; rfl
theorem p_0 (h : Iv (M 1) n) {p : Nat} (hp : p < 6) : m_X5_player (nI p) 0 M = some (M 1 1 p, M) := q_player h hp 0 (by decide)
theorem p_2 (h : Iv (M 1) n) {p : Nat} (hp : p < 6) : m_X5_player (nI p) 2 M = some (nI (cnt (pBe (M 1) 0 false (nI p)) n), M) := q_player h hp 2 (by decide)
theorem p_3 (h : Iv (M 1) n) {p : Nat} (hp : p < 6) : m_X5_player (nI p) 3 M = some (nI (cnt (pBe (M 1) 1 false (nI p)) n), M) := q_player h hp 3 (by decide)
theorem p_4 (h : Iv (M 1) n) {p : Nat} (hp : p < 6) : m_X5_player (nI p) 4 M = some (nI (cnt (pBe (M 1) 2 false (nI p)) n), M) := q_player h hp 4 (by decide)
theorem p_5 (h : Iv (M 1) n) {p : Nat} (hp : p < 6) : m_X5_player (nI p) 5 M = some (bx_sum (vf (M 1) false (nI p)) n, M) := q_player h hp 5 (by decide)
theorem p_6 (h : Iv (M 1) n) {p : Nat} (hp : p < 6) : m_X5_player (nI p) 6 M = some (bst (M 1) (nI p) n, M) := q_player h hp 6 (by decide)
theorem q_line (h : Iv (M 1) n) {c : Nat} (hc : c < n) : m_X5_line (nI c) M = some (nI (ln (M 1) n c), M) := by
  have hn := iv_n h
  unfold m_X5_line
  rw [s_hasConker h, bnd_s, nm_u, uM_self, hC_nI hc (by omega), bf_t, s_lengthOfLine h, bnd_s, nm_u, uM_self]
  rfl
theorem q_ranked (h : Iv (M 1) n) (r : Nat) (hr : r < 2 ^ 31) : m_X5_ranked (nI r) M = some (fr (pRk (M 1) n (nI r)) n 0, M) := by
  unfold m_X5_ranked
  rw [if_pos (nI_pos' hr), s_atRank h, bnd_s, nm_u, uM_self]
theorem q_low (a : Int32) {m : Nat} (h0 : 1 ≤ m) (hm : m < 2 ^ 31) (M : Mm) : ∃ t, t < m ∧ m_L_low a (nI m) M = some (nI t, M) := by
  have hp : (0 : Int32) ≤ a &&& 2147483647 ∧ True := ⟨by
    rw [Int32.le_iff_toInt_le]
    have e1 : (a &&& 2147483647).toInt = (a.toBitVec &&& 2147483647#32).toInt := rfl
    have e2 : (0 : Int32).toInt = 0 := rfl
    rw [e1, e2]
    have e3 : (a.toBitVec &&& 2147483647#32).toNat < 2 ^ 31 := by
      rw [BitVec.toNat_and]
      exact Nat.lt_of_le_of_lt Nat.and_le_right (by decide)
    rw [BitVec.toInt_eq_toNat_of_lt (by omega)]
    omega, trivial⟩
  obtain ⟨j, hj, ej⟩ := nI_of (x := a &&& 2147483647) (fun h => (i_lt_nle.mp h) hp.1)
  have g : (!decide (nI m = 0)) = true := by
    have : ¬ nI m = 0 := nI_ne0 h0 hm
    simp [this]
  refine ⟨j % m, Nat.mod_lt _ h0, ?_⟩
  unfold m_L_low
  rw [g, gd_t, ej, pk_rem hj h0 hm]
end TOLD
/-! the history -/
def Hi (M : Mm) (h : Nat) : Prop := h ≤ 5 ∧ M 12 0 1 = nI h ∧ ∃ β : Nat → Nat, ∀ j, j < 5 → M 12 1 j = nI (β j) ∧ 4 ≤ β j ∧ β j ≤ 8
/-- the last that was kept is T0 -/
def Top (M : Mm) (T0 : Tm) : Prop := ∃ h β : Nat, 1 ≤ h ∧ h ≤ 5 ∧ M 12 0 1 = nI h ∧ M 12 1 (h - 1) = nI β ∧ 4 ≤ β ∧ β ≤ 8 ∧ Ag T0 (M β)
def hk (h : Nat) : Nat := if h < 5 then h + 1 else 5
section HIST
variable {M M' : Mm} {T0 : Tm} {h : Nat}
theorem hi_le (H : Hi M h) : h ≤ 5 := H.1
theorem hi_c (H : Hi M h) : M 12 0 1 = nI h := H.2.1
theorem hi_12 (e : M' 12 = M 12) (H : Hi M h) : Hi M' h := by
  obtain ⟨h1, h2, h3⟩ := H
  exact ⟨h1, by rw [e]; exact h2, by rw [e]; exact h3⟩
theorem top_fr (e : M' 12 = M 12) (e2 : ∀ q, 4 ≤ q → q ≤ 8 → M' q = M q) (H : Top M T0) : Top M' T0 := by
  obtain ⟨h, β, a1, a2, a3, a4, a5, a6, a7⟩ := H
  exact ⟨h, β, a1, a2, by rw [e]; exact a3, by rw [e]; exact a4, a5, a6, by rw [e2 β a5 a6]; exact a7⟩
theorem m_push (hh : h < 5) (H : Hi M h) : ∃ M' : Mm, m_X1_keep_12 M = some (0, M') ∧ Hi M' (h + 1) ∧ Top M' (M 1) ∧ ∀ q, q ≠ 12 → ¬ (4 ≤ q ∧ q ≤ 8) → M' q = M q := by
  obtain ⟨c1, c2, β, c4⟩ := H
  obtain ⟨b1, b2, b3⟩ := c4 h hh
  have hne : (1 : Nat) ≠ β h := by omega
  have hne2 : (12 : Nat) ≠ β h := by omega
  refine ⟨uM (uM M (β h) (cpT (M (β h)) (M 1))) 12 (wT (M 12) 0 1 (nI (h + 1))), ?_, ⟨by omega, ?_, β, fun j hj => ?_⟩, ⟨h + 1, β h, by omega, by omega, ?_, ?_, b2, b3, ?_⟩, fun q q1 q2 => ?_⟩
  · unfold m_X1_keep_12
    rw [nm_u, c2, ib_nI hh (by decide), gd_t, nm_u, cl_nI (by omega), b1, sb_nI b2 b3, gd_t, cl_nI (by omega), s_copyFrom hne, bnd_s, nm_u, nm_u]
    unfold wM
    rw [uM_ne _ _ _ hne2, c2, nI_p1]
  · rw [uM_same, wT_ss]
  · rw [uM_same, wT_ne _ _ _ (by decide)]
    exact c4 j hj
  · rw [uM_same, wT_ss]
  · rw [uM_same, wT_ne _ _ _ (by decide), Nat.add_sub_cancel]
    exact b1
  · rw [uM_ne _ _ _ (fun e => hne2 e.symm), uM_same]
    exact cp_Ag _ _
  · have hqb : q ≠ β h := fun e => q2 (by omega)
    rw [uM_ne _ _ _ q1, uM_ne _ _ _ hqb]
theorem m_keep (H : Hi M h) : ∃ M' : Mm, m_X1_keep M = some (0, M') ∧ Hi M' (hk h) ∧ Top M' (M 1) ∧ ∀ q, q ≠ 12 → ¬ (4 ≤ q ∧ q ≤ 8) → M' q = M q := by
  have c1 := H.1
  have c2 := H.2.1
  unfold m_X1_keep hk
  by_cases hlt : h < 5
  · obtain ⟨M', e1, e2, e3, e4⟩ := m_push hlt H
    have c : nI h < 5 := nI_lt (b := 5) hlt (by decide)
    rw [nm_u, c2, if_pos c, if_pos hlt]
    exact ⟨M', e1, e2, e3, e4⟩
  · have e5 : h = 5 := by omega
    subst e5
    obtain ⟨β, c4⟩ := H.2.2
    obtain ⟨T', d1, d2, d3⟩ := s_drop (M 12) c4 c2
    have H2 : Hi (uM M 12 T') 4 := by
      refine ⟨by decide, by rw [uM_same]; exact d2, fun j => if j = 4 then β 0 else β (j + 1), fun j hj => ?_⟩
      rw [uM_same]
      refine ⟨d3 j hj, ?_⟩
      by_cases h4 : j = 4
      · simp only [h4, if_true]; exact (c4 0 (by decide)).2
      · simp only [h4, if_false]; exact (c4 (j + 1) (by omega)).2
    obtain ⟨M', e1, e2, e3, e4⟩ := m_push (by decide) H2
    have c : ¬ nI 5 < 5 := by decide
    rw [nm_u, c2, if_neg c, d1, bnd_s, nm_u, if_neg hlt]
    rw [uM_ne _ _ _ (by decide)] at e3
    exact ⟨M', e1, e2, e3, fun q q1 q2 => by rw [e4 q q1 q2, uM_ne _ _ _ q1]⟩
theorem m_undo (H : Hi M h) (hT : Top M T0) (h0 : Jk T0) (h1 : Jk (M 1)) : 1 ≤ h ∧ ∃ M' : Mm, m_X5_undo M = some (nI (h - 1), M') ∧ M' 1 = T0 ∧ Hi M' (h - 1) ∧ ∀ q, q ≠ 1 → q ≠ 12 → M' q = M q := by
  obtain ⟨c1, c2, β', c4⟩ := H
  obtain ⟨h', β, a1, a2, a3, a4, a5, a6, a7⟩ := hT
  have eh : h' = h := nI_inj (by omega) (by omega) (a3.symm.trans c2)
  subst eh
  have hne : β ≠ 1 := by omega
  refine ⟨a1, uM (uM M 12 (wT (M 12) 0 1 (nI (h' - 1)))) 1 T0, ?_, uM_same _ _ _, ⟨by omega, ?_, β', fun j hj => ?_⟩, fun q q1 q2 => ?_⟩
  · have c : (1 : Int32) ≤ nI h' := nI_le (a := 1) a1 (by omega)
    have e12 : wM M 12 0 1 (nI (h' - 1)) 12 = wT (M 12) 0 1 (nI (h' - 1)) := uM_same _ _ _
    have eb : wM M 12 0 1 (nI (h' - 1)) β = M β := uM_ne _ _ _ (by omega)
    have e1 : wM M 12 0 1 (nI (h' - 1)) 1 = M 1 := uM_ne _ _ _ (by decide)
    unfold m_X5_undo m_X1_bringBack
    rw [nm_u, c2, if_pos c, nm_u, nI_m1 a1, nm_u, nm_u, e12, wT_ss, ib_nI (show h' - 1 < 5 by omega) (by decide), gd_t, nm_u, cl_nI (show h' - 1 < 2 ^ 31 by omega), wT_n _ _ _ _ (by decide), a4, sb_nI a5 a6, gd_t, cl_nI (show β < 2 ^ 31 by omega), s_copyFrom hne, bnd_s, nm_u, eb, e1, cp_eq h1 h0 a7, uM_ne _ _ _ (by decide), e12, wT_ss, bnd_s]
    rfl
  · rw [uM_ne _ _ _ (by decide), uM_same, wT_ss]
  · rw [uM_ne _ _ _ (by decide), uM_same, wT_ne _ _ _ (by decide)]
    exact c4 j hj
  · rw [uM_ne _ _ _ q1, uM_ne _ _ _ q2]
end HIST
/-! ACTIONS: what a call does to every memory whose state that is now is T -/
def Act (f : Mm → Option (Int32 × Mm)) (T : Tm) (r : Int32) (good : Bool) (ok : Tm → Prop) : Prop :=
  ∀ (M : Mm) (h : Nat), M 1 = T → Hi M h → Jk (M 3) → ∃ M' : Mm, f M = some (r, M') ∧ Jk (M' 3) ∧ (if good then ok (M' 1) ∧ Hi M' (hk h) ∧ Top M' T else M' 1 = T ∧ M' 12 = M 12)
/-- an answer that is an error, or a number of 0 and more -/
def RG (r : Int32) (good : Bool) : Prop := if good then 0 ≤ r else (r = (-1) ∨ r = (-2) ∨ r = (-3) ∨ r = (-4))
section ACTN
variable {T : Tm} {n s : Nat} {f : Mm → Option (Int32 × Mm)} {r : Int32} {g : Bool} {ok ok' : Tm → Prop}
theorem act_mono (h : Act f T r g ok) (hk : ∀ T', ok T' → ok' T') : Act f T r g ok' := by
  intro M hh e H J
  obtain ⟨M', a, b, c⟩ := h M hh e H J
  refine ⟨M', a, b, ?_⟩
  cases g with
  | true => exact ⟨hk _ c.1, c.2⟩
  | false => exact c
theorem act_err (h : ∀ M : Mm, M 1 = T → f M = some (r, M)) : Act f T r false ok := fun M _ e _ J => ⟨M, h M e, J, e, rfl⟩
/-- a state is kept, then a thing is done to the state that is now -/
theorem act_keep {T' : Tm} (h : ∀ M M' : Mm, M 1 = T → m_X1_keep M = some (0, M') → M' 1 = T → f M = some (r, uM M' 1 T')) (hok : ok T') : Act f T r true ok := by
  intro M hh e H J
  obtain ⟨M', a, b, c, d⟩ := m_keep H
  have e1 : M' 1 = T := (d 1 (by decide) (by omega)).trans e
  have e3 : M' 3 = M 3 := d 3 (by decide) (by omega)
  refine ⟨uM M' 1 T', h M M' e a e1, ?_, ?_⟩
  · rw [uM_ne _ _ _ (by decide), e3]; exact J
  · rw [e] at c
    refine ⟨by rw [uM_same]; exact hok, hi_12 (uM_ne _ _ _ (by decide)) b, top_fr (uM_ne _ _ _ (by decide)) (fun q q1 q2 => uM_ne _ _ _ (by omega)) c⟩
theorem rg_f {r : Int32} (h : r = (-1) ∨ r = (-2) ∨ r = (-3) ∨ r = (-4)) : RG r false := h
theorem rg_t {n : Nat} (h : n < 2 ^ 31) : RG (nI n) true := nI_pos' h
end ACTN
