/-! BOUTS -/
def nx (x : Int32) : Int32 := ((25173 * x) + 13849) - ((25173 * x) + 13849) / 65536 * 65536
def J2 (T : Tm) (a b : Nat) : Prop := (T 9 a = 2 → T 9 b = 2 → T 10 a = (-5) ∧ T 10 b = (-5)) ∧ (T 9 a = 2 → ¬ T 9 b = 2 → T 10 a = nI b) ∧ (T 9 b = 2 → ¬ T 9 a = 2 → T 10 b = nI a)
theorem J2_sym {T : Tm} {a b : Nat} (h : J2 T a b) : J2 T b a := ⟨fun h1 h2 => ⟨(h.1 h2 h1).2, (h.1 h2 h1).1⟩, h.2.2, h.2.1⟩
section FIGHT
variable {T : Tm} {n : Nat}
theorem g65536 : (!decide ((65536 : Int32) = 0)) = true := by decide
theorem g7282 : (!decide ((7282 : Int32) = 0)) = true := by decide
theorem s_swing (T : Tm) : m_X0_swing T = some (1 + nx (T 0 0) / 7282, wT T 0 0 (nx (T 0 0))) := by
  unfold m_X0_swing m_X0_next
  rw [nm_u, g65536, gd_t, nm_u, nm_u, bnd_s, wT_ss, g7282, gd_t]
  rfl
theorem s_next (T : Tm) : m_X0_next T = some (nx (T 0 0), wT T 0 0 (nx (T 0 0))) := by
  unfold m_X0_next
  rw [nm_u, g65536, gd_t, nm_u, nm_u, wT_ss]
  rfl
theorem J2_hit (h : Iv T n) {a b : Nat} (ha : a < n) (hb : b < n) (hab : a ≠ b) (h9a : T 9 a = 0) (h9b : T 9 b = 0) (w : Int32) : J2 (hitT T a b w) a b := by
  have hba : b ≠ a := fun e => hab e.symm
  have e10a := iv_by0 h ha h9a
  have e10b := iv_by0 h hb h9b
  have n12 : ¬ ((1 : Int32) = 2) := by decide
  have n02 : ¬ ((0 : Int32) = 2) := by decide
  by_cases hA : hca T a b w = 100 <;> by_cases hB : hcb T a b w = 100 <;> by_cases hWA : hwa T a w = 20 <;> by_cases hWB : hwb T b = 20 <;> simp [J2, hitT, hA, hB, hWA, hWB, hba, e10a, e10b]
theorem hit_9 {a b : Nat} (w : Int32) (T : Tm) : (hitT T a b w) 3 = T 3 := hit_q T a b w (by decide) (by decide) (by decide) (by decide) (by decide) (by decide) (by decide)
theorem mn_nI {a b : Nat} (ha : a < 2 ^ 31) (hb : b < 2 ^ 31) : mn (nI a) (nI b) = nI (min a b) := by
  unfold mn
  by_cases h : b < a
  · rw [if_pos (nI_lt h ha), Nat.min_eq_right (by omega)]
  · rw [if_neg (nI_nlt (by omega) hb), Nat.min_eq_left (by omega)]
theorem mx_nI {a b : Nat} (ha : a < 2 ^ 31) (hb : b < 2 ^ 31) : mx (nI a) (nI b) = nI (max a b) := by
  unfold mx
  by_cases h : a < b
  · rw [if_pos (nI_lt h hb), Nat.max_eq_right (by omega)]
  · rw [if_neg (nI_nlt (by omega) ha), Nat.max_eq_left (by omega)]
theorem J2_play (h : Iv T n) {a b : Nat} (h9a : T 9 a = 0) (h9b : T 9 b = 0) : J2 T a b := by
  have n02 : ¬ ((0 : Int32) = 2) := by decide
  refine ⟨fun e => ?_, fun e => ?_, fun e => ?_⟩
  · rw [h9a] at e; exact absurd e n02
  · rw [h9a] at e; exact absurd e n02
  · rw [h9b] at e; exact absurd e n02
end FIGHT

/-! HISTORY: the relation of both whole memories; keep and records -/
def Ag (S S' : Tm) : Prop := S' 0 10 = S 0 10 ∧ S' 0 11 = S 0 11 ∧ S' 0 12 = S 0 12 ∧ (∀ p, p < 6 → S' 1 p = S 1 p ∧ S' 2 p = S 2 p) ∧ ∀ a, 3 ≤ a → a ≤ 10 → ∀ c, c < 30 → S' a c = S a c
section AG
variable {S S' : Tm} {s s' : Nat → Int32} {n o o' : Nat}
theorem ag_cnt (hn : n ≤ 30) (h : Ag S S') : cnt (nby S') n = cnt (nby S) n := cnt_congr (fun c hc => by
  unfold nby
  rw [h.2.2.2.2 10 (by decide) (by decide) c (by omega)])
theorem ag_Iv (h : Ag S S') (hI : Iv S n) : Iv S' n := by
  have hn := iv_n hI
  have hc := ag_cnt hn h
  obtain ⟨h10, h11, h12, hp, hf⟩ := h
  have f3 : ∀ c, c < n → S' 3 c = S 3 c := fun c hc => hf 3 (by decide) (by decide) c (by omega)
  have f4 : ∀ c, c < n → S' 4 c = S 4 c := fun c hc => hf 4 (by decide) (by decide) c (by omega)
  have f7 : ∀ c, c < n → S' 7 c = S 7 c := fun c hc => hf 7 (by decide) (by decide) c (by omega)
  have f9 : ∀ c, c < n → S' 9 c = S 9 c := fun c hc => hf 9 (by decide) (by decide) c (by omega)
  have f10 : ∀ c, c < n → S' 10 c = S 10 c := fun c hc => hf 10 (by decide) (by decide) c (by omega)
  refine ⟨hn, h10.trans (iv_N hI), fun p hp2 => by rw [(hp p hp2).1]; exact iv_str hI p hp2, fun c hc => by rw [f3 c hc]; exact iv_own hI c hc, fun c hc => by rw [f4 c hc]; exact iv_hard hI c hc, fun c hc => by rw [f10 c hc]; exact iv_by hI c hc, fun c hc h9 => ?_, ?_, ?_⟩
  · rw [f10 c hc] at h9
    rw [f9 c hc]
    exact iv_by2 hI c hc h9
  · obtain ⟨v, l, h1, h2, h3⟩ := iv_v hI
    exact ⟨v, l, fun c hc => by rw [f7 c hc]; exact h1 c hc, h11.trans h2, by rw [hc]; exact h3⟩
  · obtain ⟨d, h1, h2⟩ := iv_d hI
    exact ⟨d, fun c hc2 => by rw [hc]; exact h1 c hc2, fun c j hc hj he => h2 c j hc hj (by rw [← f10 c hc]; exact he)⟩
end AG
def cpT (T S : Tm) : Tm := fun a j =>
  if a = 0 then (if j = 10 ∨ j = 11 ∨ j = 12 then S 0 j else T 0 j)
  else if a = 1 ∨ a = 2 then (if j < 6 then S a j else T a j)
  else if a ≤ 10 then (if j < 30 then S a j else T a j) else T a j
theorem cp_Ag (T S : Tm) : Ag S (cpT T S) := by
  refine ⟨by simp [cpT], by simp [cpT], by simp [cpT], fun p hp => ⟨by simp [cpT, hp], by simp [cpT, hp]⟩, fun a h1 h2 c hc => ?_⟩
  unfold cpT
  rw [if_neg (by omega), if_neg (by omega), if_pos h2, if_pos hc]
theorem cT_get (T : Tm) (a : Nat) (f : Nat → Int32) (n b j : Nat) : cT T a f n b j = if b = a then (if j < n then f j else T a j) else T b j := by
  unfold cT
  by_cases h : b = a
  · rw [if_pos h, if_pos h]
    unfold va_cpy
    by_cases h2 : j < n
    · rw [if_pos ⟨Nat.zero_le _, by omega⟩, if_pos h2]
      simp
    · rw [if_neg (fun e => h2 (by have := e.2; omega)), if_neg h2]
  · rw [if_neg h, if_neg h]
set_option maxHeartbeats 4000000 in
theorem s_copyFrom {k k2 : Nat} (hk : k2 ≠ k) (M : Mm) : m_X4_copyFrom k k2 M = some (0, uM M k (cpT (M k) (M k2))) := by
  unfold m_X4_copyFrom wM
  rw [nm_u, nm_u, nm_u, nm_u, nm_u, nm_u, nm_u, nm_u, nm_u, nm_u]
  simp only [uM_same, uM_ne _ _ _ hk, uM_uM]
  rw [nm_u, nm_u, nm_u, nm_u, nm_u, nm_u]
  simp only [uM_same, uM_ne _ _ _ hk, uM_uM]
  refine congrArg (fun z => some (0, uM M k z)) ?_
  funext a j
  simp only [wT_get, cT_get]
  unfold cpT
  have ha : a = 0 ∨ a = 1 ∨ a = 2 ∨ a = 3 ∨ a = 4 ∨ a = 5 ∨ a = 6 ∨ a = 7 ∨ a = 8 ∨ a = 9 ∨ a = 10 ∨ 10 < a := by omega
  rcases ha with rfl | rfl | rfl | rfl | rfl | rfl | rfl | rfl | rfl | rfl | rfl | ha
  · by_cases h10 : j = 10
    · subst h10; simp
    · by_cases h11 : j = 11
      · subst h11; simp
      · by_cases h12 : j = 12
        · subst h12; simp
        · simp [h10, h11, h12]
  · simp
  · simp
  · simp
  · simp
  · simp
  · simp
  · simp
  · simp
  · simp
  · simp
  · have n0 : a ≠ 0 := by omega
    have n1 : a ≠ 1 := by omega
    have n2 : a ≠ 2 := by omega
    have n3 : a ≠ 3 := by omega
    have n4 : a ≠ 4 := by omega
    have n5 : a ≠ 5 := by omega
    have n6 : a ≠ 6 := by omega
    have n7 : a ≠ 7 := by omega
    have n8 : a ≠ 8 := by omega
    have n9 : a ≠ 9 := by omega
    have n10 : a ≠ 10 := by omega
    have n11 : ¬ a ≤ 10 := by omega
    simp [n0, n1, n2, n3, n4, n5, n6, n7, n8, n9, n10, n11]
/-! THE RELATION -/
/-- what the rest of the relation speaks of -/
def FrM (M M' : Mm) : Prop := M' 12 = M 12 ∧ M' 0 0 7 = M 0 0 7 ∧ M' 2 = M 2 ∧ (∀ q, 4 ≤ q → q ≤ 8 → M' q = M q) ∧ M' 9 0 1 = M 9 0 1 ∧ ∀ j, M' 9 1 j = M 9 1 j
theorem frM_rf (M : Mm) : FrM M M := ⟨rfl, rfl, rfl, fun _ _ _ => rfl, rfl, fun _ => rfl⟩
theorem frM_tr {M M' M'' : Mm} (h : FrM M M') (h' : FrM M' M'') : FrM M M'' := ⟨h'.1.trans h.1, h'.2.1.trans h.2.1, h'.2.2.1.trans h.2.2.1, fun q a b => (h'.2.2.2.1 q a b).trans (h.2.2.2.1 q a b), h'.2.2.2.2.1.trans h.2.2.2.2.1, fun j => (h'.2.2.2.2.2 j).trans (h.2.2.2.2.2 j)⟩
theorem frM_u {M : Mm} {k : Nat} {T : Tm} (hk : k = 1 ∨ k = 3 ∨ k = 10 ∨ k = 11) : FrM M (uM M k T) := by
  refine ⟨uM_ne _ _ _ (by omega), by rw [uM_ne _ _ _ (by omega)], uM_ne _ _ _ (by omega), fun q h1 h2 => uM_ne _ _ _ (by omega), by rw [uM_ne _ _ _ (by omega)], fun j => by rw [uM_ne _ _ _ (by omega)]⟩
/-! keep and records; bringBack and undo -/
theorem sb_nI {b : Nat} (h1 : 4 ≤ b) (h2 : b ≤ 8) : sb (nI b) = true := by
  unfold sb
  rw [cl_nI (by omega)]
  have e1 : 1 ≤ b := by omega
  simp [e1, h2]
section KEEP
variable {M : Mm} {TM : Tm} {h n : Nat} {β : Nat → Nat}
theorem fu5 : fu = 995 + 5 := rfl
theorem s_drop (T : Tm) (hb : ∀ j, j < 5 → T 1 j = nI (β j) ∧ 4 ≤ β j ∧ β j ≤ 8) (h5 : T 0 1 = nI 5) : ∃ T' : Tm, m_X1_dropOldest T = some (0, T') ∧ T' 0 1 = nI 4 ∧ ∀ j, j < 5 → T' 1 j = nI (if j = 4 then β 0 else β (j + 1)) := by
  obtain ⟨a0, l0, u0⟩ := hb 0 (by decide)
  obtain ⟨a1, l1, u1⟩ := hb 1 (by decide)
  obtain ⟨a2, l2, u2⟩ := hb 2 (by decide)
  obtain ⟨a3, l3, u3⟩ := hb 3 (by decide)
  obtain ⟨a4, l4, u4⟩ := hb 4 (by decide)
  have c1 : ¬ ((5 : Int32) ≤ 1) := by decide
  have c2 : ¬ ((5 : Int32) ≤ 1 + 1) := by decide
  have c3 : ¬ ((5 : Int32) ≤ 1 + 1 + 1) := by decide
  have c4 : ¬ ((5 : Int32) ≤ 1 + 1 + 1 + 1) := by decide
  have c5 : (5 : Int32) ≤ 1 + 1 + 1 + 1 + 1 := by decide
  have i1 : ib 1 5 = true := by decide
  have i2 : ib (1 + 1) 5 = true := by decide
  have i3 : ib (1 + 1 + 1) 5 = true := by decide
  have i4 : ib (1 + 1 + 1 + 1) 5 = true := by decide
  have d1 : ib (1 - 1) 5 = true := by decide
  have d2 : ib (1 + 1 - 1) 5 = true := by decide
  have d3 : ib (1 + 1 + 1 - 1) 5 = true := by decide
  have d4 : ib (1 + 1 + 1 + 1 - 1) 5 = true := by decide
  have t1 : (1 : Int32).toNatClampNeg = 1 := by decide
  have t2 : ((1 : Int32) + 1).toNatClampNeg = 2 := by decide
  have t3 : ((1 : Int32) + 1 + 1).toNatClampNeg = 3 := by decide
  have t4 : ((1 : Int32) + 1 + 1 + 1).toNatClampNeg = 4 := by decide
  have e1 : ((1 : Int32) - 1).toNatClampNeg = 0 := by decide
  have e2 : ((1 : Int32) + 1 - 1).toNatClampNeg = 1 := by decide
  have e3 : ((1 : Int32) + 1 + 1 - 1).toNatClampNeg = 2 := by decide
  have e4 : ((1 : Int32) + 1 + 1 + 1 - 1).toNatClampNeg = 3 := by decide
  have f4 : (4 : Int32).toNatClampNeg = 4 := by decide
  have g4 : ib 4 5 = true := by decide
  have g0 : ib 0 5 = true := by decide
  refine ⟨wT (wT (wT (wT (wT (wT T 1 0 (nI (β 1))) 1 1 (nI (β 2))) 1 2 (nI (β 3))) 1 3 (nI (β 4))) 1 4 (nI (β 0))) 0 1 (nI 4), ?_, ?_, ?_⟩
  · unfold m_X1_dropOldest
    rw [g0, gd_t, nm_u, cl0, a0, fu5]
    rw [m_X1_dropOldest_9.eq_2, if_neg c1, i1, gd_t, nm_u, t1, a1, sb_nI l1 u1, gd_t, d1, gd_t, nm_u, e1]
    rw [m_X1_dropOldest_9.eq_2, if_neg c2, i2, gd_t, nm_u, t2, wT_sn _ _ _ (by decide), a2, sb_nI l2 u2, gd_t, d2, gd_t, nm_u, e2]
    rw [m_X1_dropOldest_9.eq_2, if_neg c3, i3, gd_t, nm_u, t3, wT_sn _ _ _ (by decide), wT_sn _ _ _ (by decide), a3, sb_nI l3 u3, gd_t, d3, gd_t, nm_u, e3]
    rw [m_X1_dropOldest_9.eq_2, if_neg c4, i4, gd_t, nm_u, t4, wT_sn _ _ _ (by decide), wT_sn _ _ _ (by decide), wT_sn _ _ _ (by decide), a4, sb_nI l4 u4, gd_t, d4, gd_t, nm_u, e4]
    rw [m_X1_dropOldest_9.eq_2, if_pos c5, sb_nI l0 u0, gd_t, g4, gd_t, nm_u, f4, nm_u, nm_u]
    simp (disch := omega) only [wT_n]
    rw [h5]
    rfl
  · rw [wT_ss]
  · intro j hj
    have hj2 : j = 0 ∨ j = 1 ∨ j = 2 ∨ j = 3 ∨ j = 4 := by omega
    rcases hj2 with rfl | rfl | rfl | rfl | rfl <;> simp [wT_get]
theorem fu5' : fu = 995 + 1 + 1 + 1 + 1 + 1 := rfl
end KEEP

/-! ACTIONS on the state that is now (place 0 of the row) -/
theorem wT_comm (T : Tm) {a b : Nat} (i j : Nat) (v w : Int32) (h : a ≠ b) : wT (wT T a i v) b j w = wT (wT T b j w) a i v := by
  funext q c
  simp only [wT_get]
  by_cases h1 : q = a
  · by_cases h2 : q = b
    · omega
    · simp [h1, h]
  · by_cases h2 : q = b
    · subst h2; simp [h1]
    · simp [h1, h2]
section ACTS
variable {T T' : Tm} {s : Nat → Int32} {n : Nat}
theorem iv_ch (h : Iv T n) (e10 : T' 0 10 = T 0 10) (hs : ∀ p, p < 6 → ∃ j, j ≤ 20 ∧ T' 1 p = nI j) (e3 : ∀ c, c < n → T' 3 c = T 3 c) (e4 : ∀ c, c < n → T' 4 c = T 4 c) (eb : ∀ c, c < n → T' 10 c = T 10 c) (h2 : ∀ c, c < n → T 10 c ≠ (-5) → T' 9 c = 2)
    (hv : ∃ (v : Nat → Nat) (l : Nat), (∀ c, c < n → T' 7 c = nI (v c)) ∧ T' 0 11 = nI l ∧ sm v n + l = cnt (nby T) n) : Iv T' n := by
  have hc : cnt (nby T') n = cnt (nby T) n := cnt_congr (fun c hc => by unfold nby; rw [eb c hc])
  refine ⟨iv_n h, e10.trans (iv_N h), hs, fun c hc => by rw [e3 c hc]; exact iv_own h c hc, fun c hc => by rw [e4 c hc]; exact iv_hard h c hc, fun c hc => by rw [eb c hc]; exact iv_by h c hc, fun c hc h9 => h2 c hc (by rw [← eb c hc]; exact h9), ?_, ?_⟩
  · rw [hc]; exact hv
  · obtain ⟨d, h1, h3⟩ := iv_d h
    exact ⟨d, fun c hc2 => by rw [hc]; exact h1 c hc2, fun c j hc hj he => h3 c j hc hj (by rw [← eb c hc]; exact he)⟩
theorem iv_vv (h : Iv T n) (e7 : ∀ c, c < n → T' 7 c = T 7 c) (e11 : T' 0 11 = T 0 11) : ∃ (v : Nat → Nat) (l : Nat), (∀ c, c < n → T' 7 c = nI (v c)) ∧ T' 0 11 = nI l ∧ sm v n + l = cnt (nby T) n := by
  obtain ⟨v, l, h1, h2, h3⟩ := iv_v h
  exact ⟨v, l, fun c hc => (e7 c hc).trans (h1 c hc), e11.trans h2, h3⟩
/-- errors of mend and stamp -/
def fE (T : Tm) (n : Nat) (a : Int32) : Int32 := if hC a n = true then (if T 9 a.toNatClampNeg = 1 then 0 else (-4)) else (-1)
def mE (T : Tm) (n : Nat) (a : Int32) : Int32 := if fE T n a = 0 then (if 1 ≤ T 1 (T 3 a.toNatClampNeg).toNatClampNeg then 0 else (-4)) else fE T n a
theorem s_fallenError (h : Iv T n) (a : Int32) : m_X4_fallenError a T = some (fE T n a, T) := by
  have hn := iv_n h
  unfold m_X4_fallenError fE
  rw [s_hasConker h, bnd_s]
  cases hc : hC a n with
  | false => simp [bI]
  | true =>
    obtain ⟨i, hi, rfl⟩ := hC_t hc (by omega)
    rw [ib_nI (by omega) (by decide), gd_t, nm_u, cl_nI (by omega)]
    by_cases h1 : T 9 i = 1 <;> simp [bI, h1]
theorem fE_0 {a : Int32} (hn : n ≤ 30) (h : fE T n a = 0) : ∃ i, i < n ∧ a = nI i ∧ T 9 i = 1 := by
  unfold fE at h
  by_cases hc : hC a n = true
  · obtain ⟨i, hi, rfl⟩ := hC_t hc (by omega)
    rw [if_pos hc, cl_nI (by omega)] at h
    by_cases h1 : T 9 i = 1
    · exact ⟨i, hi, rfl, h1⟩
    · rw [if_neg h1] at h
      exact absurd h (by decide)
  · rw [if_neg hc] at h
    exact absurd h (by decide)
theorem s_mendError (h : Iv T n) (a : Int32) : m_X4_mendError a T = some (mE T n a, T) := by
  have hn := iv_n h
  unfold m_X4_mendError mE
  rw [s_fallenError h, bnd_s]
  by_cases h0 : fE T n a = 0
  · obtain ⟨i, hi, rfl, h9⟩ := fE_0 hn h0
    obtain ⟨p, hp, e3⟩ := iv_own h i hi
    rw [if_pos h0, if_pos h0, ib_nI (by omega) (by decide), gd_t, nm_u, cl_nI (by omega), e3, ib_nI hp (by decide), gd_t, nm_u]
    by_cases h1 : 1 ≤ T 1 (nI p).toNatClampNeg <;> simp [h1]
  · rw [if_neg h0, if_neg h0]
theorem mE_0 {a : Int32} (h : Iv T n) (h0 : mE T n a = 0) : ∃ i p j, i < n ∧ a = nI i ∧ T 9 i = 1 ∧ p < 6 ∧ T 3 i = nI p ∧ 1 ≤ j ∧ j ≤ 20 ∧ T 1 p = nI j := by
  have hn := iv_n h
  unfold mE at h0
  by_cases h1 : fE T n a = 0
  · obtain ⟨i, hi, rfl, h9⟩ := fE_0 hn h1
    obtain ⟨p, hp, e3⟩ := iv_own h i hi
    obtain ⟨j, hj, e1⟩ := iv_str h p hp
    rw [if_pos h1, cl_nI (by omega), e3, cl_nI (by omega), e1] at h0
    by_cases h2 : j = 0
    · subst h2
      have c : ¬ (1 : Int32) ≤ nI 0 := by decide
      rw [if_neg c] at h0
      exact absurd h0 (by decide)
    · exact ⟨i, p, j, hi, rfl, h9, hp, e3, by omega, hj, e1⟩
  · rw [if_neg h1] at h0
    exact absurd h0 h1
end ACTS

/-! MORE ACTIONS: thread, give, boast, doubt -/
section ACTS2
variable {T T' : Tm} {s : Nat → Int32} {n : Nat}
def adT (T : Tm) (n p : Nat) (x y z : Int32) : Tm := wT (wT (wT (wT (wT (wT (wT (wT (wT (wT T 1 p z) 3 n x) 4 n y) 5 n 0) 6 n 0) 7 n 0) 8 n (-5)) 9 n 0) 10 n (-5)) 0 10 (nI (n + 1))
theorem s_add (hN : T 0 10 = nI n) (hn : n < 30) {p j : Nat} (hp : p < 6) (hj : 1 ≤ j) (hj2 : j ≤ 20) (e1 : T 1 p = nI j) (y : Int32) : m_X4_addConker (nI p) y T = some (nI n, adT T n p (nI p) y (nI (j - 1))) := by
  unfold m_X4_addConker adT
  rw [nm_u, hN, ib_nI hp (by decide), ib_nI hn (by decide), cl_nI (show p < 2 ^ 31 by omega), cl_nI (show n < 2 ^ 31 by omega)]
  simp only [gd_t]
  rw [nm_u, e1, nI_m1 hj, nm_u, nm_u, nm_u, nm_u, nm_u, nm_u, nm_u, nm_u, nm_u, nm_u, nm_u]
  simp (disch := omega) only [wT_n]
  rw [hN, nI_p1]
theorem fu9 : fu = 991 + 1 + 1 + 1 + 1 + 1 + 1 + 1 + 1 + 1 := rfl
/-- a boast is set; a doubt settles one -/
theorem iv_8 (h : Iv T n) (a : Nat) (v : Int32) : Iv (wT T 8 a v) n := by
  refine iv_ch h (by rw [wT_n _ _ _ _ (by decide)]) (fun p hp => by rw [wT_n _ _ _ _ (by decide)]; exact iv_str h p hp) (fun c hc => by rw [wT_n _ _ _ _ (by decide)]) (fun c hc => by rw [wT_n _ _ _ _ (by decide)]) (fun c hc => by rw [wT_n _ _ _ _ (by decide)]) (fun c hc hne => by rw [wT_n _ _ _ _ (by decide)]; exact iv_by2 h c hc hne) (iv_vv h (fun c hc => by rw [wT_n _ _ _ _ (by decide)]) (by rw [wT_n _ _ _ _ (by decide)]))
theorem iv_2 (h : Iv T n) (a : Nat) (v : Int32) : Iv (wT T 2 a v) n := by
  refine iv_ch h (by rw [wT_n _ _ _ _ (by decide)]) (fun p hp => by rw [wT_n _ _ _ _ (by decide)]; exact iv_str h p hp) (fun c hc => by rw [wT_n _ _ _ _ (by decide)]) (fun c hc => by rw [wT_n _ _ _ _ (by decide)]) (fun c hc => by rw [wT_n _ _ _ _ (by decide)]) (fun c hc hne => by rw [wT_n _ _ _ _ (by decide)]; exact iv_by2 h c hc hne) (iv_vv h (fun c hc => by rw [wT_n _ _ _ _ (by decide)]) (by rw [wT_n _ _ _ _ (by decide)]))
theorem s_sb25 {a p : Nat} (ha : a < 30) (hp : p < 6) : m_X4_settleBoast_25 (nI a) (nI p) T = some (nI p, wT (wT T 2 p (T 2 p + 1)) 8 a (-5)) := by
  unfold m_X4_settleBoast_25
  simp (disch := omega) only [ib_nI, gd_t, nm_u, cl_nI]
end ACTS2

/-! PUBLIC CALLS: those that keep a state and act -/
section OPS
theorem bf_f {ρ : Type} (A B : ρ) : (if bI false = 0 then A else B) = A := if_pos rfl
theorem bf_t {ρ : Type} (A B : ρ) : (if bI true = 0 then A else B) = B := if_neg (by decide)
theorem wi_n {a : Int32} {b c : Nat} (h : wi a (nI b) (nI c) = true) (hb : b < 2 ^ 31) (hc : c < 2 ^ 31) : ∃ j, b ≤ j ∧ j ≤ c ∧ a = nI j := by
  simp only [wi, Bool.and_eq_true, decide_eq_true_eq] at h
  obtain ⟨h1, h2⟩ := h
  have g1 := Int32.le_iff_toInt_le.mp h1
  have g2 := Int32.le_iff_toInt_le.mp h2
  rw [nI_toI hb] at g1
  rw [nI_toI hc] at g2
  obtain ⟨j, hj, rfl⟩ := nI_of (x := a) (by
    intro h3
    have h5 := Int32.lt_iff_toInt_lt.mp h3
    have h6 : (0 : Int32).toInt = 0 := rfl
    omega)
  rw [nI_toI hj] at g1 g2
  exact ⟨j, by omega, by omega, rfl⟩
variable {M : Mm} {TM : Tm} {n : Nat}
end OPS

/-! PUBLIC CALLS: the text, undo, save, restore, and all that only asks -/
section OPS2
variable {M : Mm} {TM : Tm} {n : Nat}
theorem nar_c : ∀ c, c < 127 → vp_nar .char (((nI c).toUInt32 % 65536).toInt32) = nI c := by decide
theorem pBe_all (T : Tm) (hw p q : Int32) : pBe T hw true p = pBe T hw true q := rfl
theorem d11 : decide ((-1 : Int32) = (-1)) = true := by decide
theorem d55 : decide ((-5 : Int32) = (-5)) = true := by decide
theorem all_p (p : Nat) (hp : p < 6) : decide (nI p = (-1)) = false ∧ decide (nI p = (-5)) = false := by
  refine ⟨decide_eq_false (nI_nem1 (by omega)), decide_eq_false (nI_nem5 (by omega))⟩
theorem vf_all (T : Tm) (p q : Int32) : vf T true p = vf T true q := rfl
end OPS2

/-! PUBLIC CALLS: those that try on a copy -/
section TRIAL
variable {M : Mm} {TM : Tm} {n : Nat}
theorem hitR_c (T : Tm) (a b : Nat) (w : Int32) : (hitR T a b w &&& 3 = 2) ↔ (hitR T a b w - hitR T a b w / 4 * 4 = 2) := by
  unfold hitR
  by_cases h1 : hca T a b w = 100
  · rw [if_pos h1]
    by_cases h2 : hcb T a b w = 100
    · rw [if_pos h2]; decide
    · rw [if_neg h2]
      by_cases h3 : hwb T b = 20
      · rw [if_pos h3]; decide
      · rw [if_neg h3]; decide
  · rw [if_neg h1]
    by_cases h4 : hwa T a w = 20
    · rw [if_pos h4]
      by_cases h2 : hcb T a b w = 100
      · rw [if_pos h2]; decide
      · rw [if_neg h2]
        by_cases h3 : hwb T b = 20
        · rw [if_pos h3]; decide
        · rw [if_neg h3]; decide
    · rw [if_neg h4]
      by_cases h2 : hcb T a b w = 100
      · rw [if_pos h2]; decide
      · rw [if_neg h2]
        by_cases h3 : hwb T b = 20
        · rw [if_pos h3]; decide
        · rw [if_neg h3]; decide
end TRIAL

/-! SHARE: finite for all sums that can be -/
section SHARE
variable {T : Tm} {n : Nat}
/-- the answer's bits: a number as a double, and equal to itself -/
def shOk (r : Int32) : Prop := vf_n64 (FP.f2d r.toUInt32) ∧ Op.cmpValue (FP.dcmp (FP.f2d r.toUInt32) (FP.f2d r.toUInt32)) .l = 0
def shB (r : Int32) : Bool := decide (FP.f2d r.toUInt32 &&& 0x7fffffffffffffff ≤ 0x7ff0000000000000) && decide (Op.cmpValue (FP.dcmp (FP.f2d r.toUInt32) (FP.f2d r.toUInt32)) .l = 0)
theorem shB_t {r : Int32} (h : shB r = true) : shOk r := by
  unfold shB at h
  rw [Bool.and_eq_true, decide_eq_true_eq, decide_eq_true_eq] at h
  exact h
theorem sh_0 : shB (FP.fconst0).toInt32 = true := by decide +kernel
theorem sh_all : ∀ a, a < 31 → ∀ b, b < 31 → (b = 0 ∨ (decide (FP.fdiv (FP.i2f (nI a)) (FP.i2f (nI b)) &&& 0x7fffffff ≤ 0x7f800000) && shB (FP.fdiv (FP.i2f (nI a)) (FP.i2f (nI b))).toInt32) = true) := by decide +kernel
theorem bx_nI (h : Iv T n) (all : Bool) (p : Int32) : ∃ x, x ≤ 30 ∧ bx_sum (vf T all p) n = nI x := by
  obtain ⟨v, l, h1, _, h3⟩ := iv_v h
  have hn := iv_n h
  have hc := cnt_le (nby T) n
  have st : ∀ m, m ≤ n → ∃ x, x ≤ sm v m ∧ bx_sum (vf T all p) m = nI x := by
    intro m
    induction m with
    | zero => intro _; exact ⟨0, Nat.zero_le _, rfl⟩
    | succ m ih =>
      intro hm
      obtain ⟨x, hx, e⟩ := ih (by omega)
      by_cases ho : ofP T all p m = true
      · refine ⟨x + v m, ?_, ?_⟩
        · rw [sm]; omega
        · rw [bx_sum, e, vf, if_pos ho, h1 m (by omega), nI_add]
      · refine ⟨x, ?_, ?_⟩
        · rw [sm]; omega
        · rw [bx_sum, e, vf, if_neg ho]
          exact Int32.add_zero _
  obtain ⟨x, hx, e⟩ := st n (Nat.le_refl _)
  exact ⟨x, by omega, e⟩
end SHARE

/-! A ROUND: the row of both sides -/
section ROUND
variable {M : Mm} {TM : Tm} {n : Nat}
def XR (y : Int32) : Prop := ∃ x, x < 65536 ∧ y = nI x
theorem nx_XR {y : Int32} (h : XR y) : XR (nx y) := by
  obtain ⟨x, hx, rfl⟩ := h
  refine ⟨(25173 * x + 13849) % 65536, Nat.mod_lt _ (by decide), ?_⟩
  unfold nx
  rw [show (25173 : Int32) = nI 25173 from rfl, show (13849 : Int32) = nI 13849 from rfl, show (65536 : Int32) = nI 65536 from rfl, pk_mul, nI_add]
  exact pk_rem (by omega) (by decide) (by decide)
end ROUND

/-! A ROUND: its bouts -/
section ROUND2
variable {M : Mm} {TM : Tm} {n : Nat}
theorem s_takeOut_l {len idx : Nat} (hl : len ≤ 6) (hi : idx < len) (v : Int32) (T0 : Tm) : ∀ (m j : Nat) (T : Tm), idx + 1 ≤ j → j ≤ len → len - j < m → T 0 1 = nI len → (∀ q, q < idx → T 1 q = T0 1 q) → (∀ q, idx ≤ q → q + 1 < j → T 1 q = T0 1 (q + 1)) → (∀ q, j - 1 ≤ q → T 1 q = T0 1 q) →
    ∃ T' : Tm, m_X2_takeOut_11 m v (nI j) T = some (v, T') ∧ T' 0 1 = nI (len - 1) ∧ (∀ q, q < idx → T' 1 q = T0 1 q) ∧ ∀ q, idx ≤ q → q + 1 < len → T' 1 q = T0 1 (q + 1) := by
  intro m
  induction m with
  | zero => intro j T _ _ h; omega
  | succ m ih =>
    intro j T h1 h2 hm e1 g1 g2 g3
    rw [m_X2_takeOut_11.eq_2]
    simp only [nm_u]
    rw [e1]
    by_cases hj : j = len
    · subst hj
      rw [if_pos (nI_le (Nat.le_refl _) (by omega)), nI_m1 (by omega)]
      refine ⟨_, rfl, wT_ss _ _ _ _, fun q hq => ?_, fun q h3 h4 => ?_⟩
      · rw [wT_n _ _ _ _ (by decide)]; exact g1 q hq
      · rw [wT_n _ _ _ _ (by decide)]; exact g2 q h3 h4
    · rw [if_neg (nI_ge (by omega) (by omega)), ib_nI (show j < 6 by omega) (by decide), nI_m1 (by omega), ib_nI (show j - 1 < 6 by omega) (by decide), gd_t, gd_t, cl_nI (by omega), cl_nI (by omega), g3 j (by omega), nI_p1]
      refine ih (j + 1) (wT T 1 (j - 1) (T0 1 j)) (by omega) (by omega) (by omega) ?_ (fun q hq => ?_) (fun q h3 h4 => ?_) (fun q hq => ?_)
      · rw [wT_n _ _ _ _ (by decide)]; exact e1
      · rw [wT_sn _ _ _ (by omega)]; exact g1 q hq
      · by_cases hq : q = j - 1
        · subst hq
          have e : j - 1 + 1 = j := by omega
          rw [wT_ss, e]
        · rw [wT_sn _ _ _ hq]
          exact g2 q h3 (by omega)
      · rw [wT_sn _ _ _ (by omega)]
        exact g3 q (by omega)
theorem s_takeOut {len idx : Nat} (hl : len ≤ 6) (hi : idx < len) {T : Tm} (e1 : T 0 1 = nI len) : ∃ T' : Tm, m_X2_takeOut (nI idx) T = some (T 1 idx, T') ∧ T' 0 1 = nI (len - 1) ∧ (∀ q, q < idx → T' 1 q = T 1 q) ∧ ∀ q, idx ≤ q → q + 1 < len → T' 1 q = T 1 (q + 1) := by
  unfold m_X2_takeOut
  rw [ib_nI (show idx < 6 by omega) (by decide), gd_t, nm_u, cl_nI (by omega), nI_p1]
  exact s_takeOut_l hl hi (T 1 idx) T fu (idx + 1) T (Nat.le_refl _) (by omega) (by unfold fu; omega) e1 (fun _ _ => rfl) (fun q h1 h2 => by omega) (fun _ _ => rfl)
end ROUND2

