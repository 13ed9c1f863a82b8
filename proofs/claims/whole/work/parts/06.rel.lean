/-! THE RELATION of a state of the game (a block T) and a state of the reference (the row s from place o on), and the queries of both -/
def nby (T : Tm) : Nat → Bool := fun c => !decide (T 10 c = (-5))
def Iv (T : Tm) (n : Nat) : Prop :=
  n ≤ 30 ∧ T 0 10 = nI n ∧
  (∀ p, p < 6 → ∃ j, j ≤ 20 ∧ T 1 p = nI j) ∧
  (∀ c, c < n → ∃ j, j < 6 ∧ T 3 c = nI j) ∧
  (∀ c, c < n → ∃ j, 1 ≤ j ∧ j ≤ 9 ∧ T 4 c = nI j) ∧
  (∀ c, c < n → T 10 c = (-5) ∨ ∃ j, j < n ∧ T 10 c = nI j) ∧
  (∀ c, c < n → T 10 c ≠ (-5) → T 9 c = 2) ∧
  (∃ (v : Nat → Nat) (l : Nat), (∀ c, c < n → T 7 c = nI (v c)) ∧ T 0 11 = nI l ∧ sm v n + l = cnt (nby T) n) ∧
  (∃ d : Nat → Nat, (∀ c, c < n → d c ≤ cnt (nby T) n) ∧ ∀ c j, c < n → j < n → T 10 c = nI j → d j < d c)
/-- the row s, from o on, says what T says -/
def RS (T : Tm) (s : Nat → Int32) (o n : Nat) : Prop :=
  s o = nI n ∧ s (o + 1) = T 0 11 ∧ s (o + 2) = T 0 12 ∧ s (o + 3) = nI (cnt (nby T) n) ∧
  (∀ p, p < 6 → s (o + 4 + 2 * p) = T 1 p ∧ s (o + 5 + 2 * p) = T 2 p) ∧
  (∀ c, c < n → ∀ f, f < 8 → s (o + 16 + 8 * c + f) = T (3 + f) c)
section QUERIES
variable {T TM : Tm} {n o : Nat}
theorem iv_n (h : Iv T n) : n ≤ 30 := h.1
theorem iv_N (h : Iv T n) : T 0 10 = nI n := h.2.1
theorem iv_str (h : Iv T n) : ∀ p, p < 6 → ∃ j, j ≤ 20 ∧ T 1 p = nI j := h.2.2.1
theorem iv_own (h : Iv T n) : ∀ c, c < n → ∃ j, j < 6 ∧ T 3 c = nI j := h.2.2.2.1
theorem iv_hard (h : Iv T n) : ∀ c, c < n → ∃ j, 1 ≤ j ∧ j ≤ 9 ∧ T 4 c = nI j := h.2.2.2.2.1
theorem iv_by (h : Iv T n) : ∀ c, c < n → T 10 c = (-5) ∨ ∃ j, j < n ∧ T 10 c = nI j := h.2.2.2.2.2.1
theorem iv_by2 (h : Iv T n) : ∀ c, c < n → T 10 c ≠ (-5) → T 9 c = 2 := h.2.2.2.2.2.2.1
theorem iv_v (h : Iv T n) : ∃ (v : Nat → Nat) (l : Nat), (∀ c, c < n → T 7 c = nI (v c)) ∧ T 0 11 = nI l ∧ sm v n + l = cnt (nby T) n := h.2.2.2.2.2.2.2.1
theorem iv_d (h : Iv T n) : ∃ d : Nat → Nat, (∀ c, c < n → d c ≤ cnt (nby T) n) ∧ ∀ c j, c < n → j < n → T 10 c = nI j → d j < d c := h.2.2.2.2.2.2.2.2
theorem rs_0 (h : RS T (TM 1) 0 n) : TM 1 0 = nI n := h.1
theorem rs_f (h : RS T (TM 1) 0 n) (f : Nat) (hf : f < 8) : ∀ c, c < n → TM 1 (16 + 8 * c + f) = T (3 + f) c := fun c hc => by
  have := h.2.2.2.2.2 c hc f hf
  rw [Nat.zero_add] at this
  exact this
theorem rs_f0 (h : RS T (TM 1) 0 n) : ∀ c, c < n → TM 1 (16 + 8 * c) = T 3 c := rs_f h 0 (by decide)
theorem rs_f1 (h : RS T (TM 1) 0 n) : ∀ c, c < n → TM 1 (16 + 8 * c + 1) = T 4 c := rs_f h 1 (by decide)
theorem rs_f2 (h : RS T (TM 1) 0 n) : ∀ c, c < n → TM 1 (16 + 8 * c + 2) = T 5 c := rs_f h 2 (by decide)
theorem rs_f3 (h : RS T (TM 1) 0 n) : ∀ c, c < n → TM 1 (16 + 8 * c + 3) = T 6 c := rs_f h 3 (by decide)
theorem rs_f4 (h : RS T (TM 1) 0 n) : ∀ c, c < n → TM 1 (16 + 8 * c + 4) = T 7 c := rs_f h 4 (by decide)
theorem rs_f5 (h : RS T (TM 1) 0 n) : ∀ c, c < n → TM 1 (16 + 8 * c + 5) = T 8 c := rs_f h 5 (by decide)
theorem rs_f6 (h : RS T (TM 1) 0 n) : ∀ c, c < n → TM 1 (16 + 8 * c + 6) = T 9 c := rs_f h 6 (by decide)
theorem rs_f7 (h : RS T (TM 1) 0 n) : ∀ c, c < n → TM 1 (16 + 8 * c + 7) = T 10 c := rs_f h 7 (by decide)
theorem s_hasConker (h : Iv T n) (a : Int32) : m_X4_hasConker a T = some (bI (hC a n), T) := by
  have hn := iv_n h
  unfold m_X4_hasConker
  rw [nm_u, iv_N h, s_isWithin, bnd_s, wi_hC a (by omega), bI_nb, gd_t]
theorem s_isConker (hn : n ≤ 30) (hR : RS T (TM 1) 0 n) (a : Int32) : m_X6_isConker a TM = some (bI (hC a n), TM) := by
  unfold m_X6_isConker
  rw [nI_p0, ib_nI (by decide) (by decide), gd_t, nm_u, cl_nI (by decide), rs_0 hR, s_in, bnd_s, ← nI_p0, wi_hC a (by omega), bI_nb, gd_t]
theorem cl0 : (0 : Int32).toNatClampNeg = 0 := by decide
theorem ib0 {N : Nat} (h : 0 < N) (hN : N < 2 ^ 31) : ib 0 N = true := ib_nI (c := 0) h hN
/-- both in play? -/
theorem s_areInPlay (h : Iv T n) {a b : Nat} (ha : a < n) (hb : b < n) : m_X4_areInPlay (nI a) (nI b) T = some (bI (decide (T 9 a = 0) && decide (T 9 b = 0)), T) := by
  have hn := iv_n h
  unfold m_X4_areInPlay
  simp (disch := omega) only [ib_nI, gd_t, nm_u, cl_nI]
  by_cases h1 : T 9 a = 0
  · by_cases h2 : T 9 b = 0
    · simp [h1, h2, bI]
    · simp [h1, h2, bI]
  · simp [h1, bI]
/-- the error of a pair, on both sides -/
def pE (T : Tm) (n : Nat) (a b : Int32) (v : Bool) : Int32 :=
  if hC a n = true ∧ hC b n = true then (if v then (if T 3 a.toNatClampNeg = T 3 b.toNatClampNeg ∨ ¬ (T 9 a.toNatClampNeg = 0 ∧ T 9 b.toNatClampNeg = 0) then (-4) else 0) else (-2)) else (-1)
theorem s_pairError (h : Iv T n) (a b : Int32) (v : Bool) : m_X4_pairError a b (bI v) T = some (pE T n a b v, T) := by
  have hn := iv_n h
  unfold m_X4_pairError
  rw [s_hasConker h, bnd_s]
  cases ha : hC a n with
  | false => simp [bI, pE, ha]
  | true =>
    rw [s_hasConker h, bnd_s]
    cases hb : hC b n with
    | false => simp [bI, pE, ha, hb]
    | true =>
      cases v with
      | false => simp [bI, pE, ha, hb]
      | true =>
        obtain ⟨i, hi, rfl⟩ := hC_t ha (by omega)
        obtain ⟨j, hj, rfl⟩ := hC_t hb (by omega)
        simp (disch := omega) only [ib_nI, gd_t, nm_u, cl_nI, s_areInPlay h hi hj, bnd_s, pE, ha, hb]
        by_cases h1 : T 3 i = T 3 j
        · simp [bI, h1, m_X4_pairError_49]
        · by_cases h2 : T 9 i = 0
          · by_cases h3 : T 9 j = 0
            · simp [bI, h1, h2, h3]
            · simp [bI, h1, h2, h3, m_X4_pairError_49]
          · simp [bI, h1, h2, m_X4_pairError_49]
theorem s_pairErrorM (hn : n ≤ 30) (hR : RS T (TM 1) 0 n) (a b : Int32) (v : Bool) : m_X6_pairError a b (bI v) TM = some (pE T n a b v, TM) := by
  unfold m_X6_pairError
  rw [s_isConker hn hR, bnd_s]
  cases ha : hC a n with
  | false => simp [bI, pE, ha]
  | true =>
    rw [s_isConker hn hR, bnd_s]
    cases hb : hC b n with
    | false => simp [bI, pE, ha, hb]
    | true =>
      cases v with
      | false => simp [bI, pE, ha, hb]
      | true =>
        obtain ⟨i, hi, rfl⟩ := hC_t ha (by omega)
        obtain ⟨j, hj, rfl⟩ := hC_t hb (by omega)
        have e0 := rs_f0 hR
        have e6 := rs_f6 hR
        simp (disch := omega) only [s_at0, bnd_s, nI_p6, ib_nI, gd_t, nm_u, cl_nI, e6, pE, ha, hb, m_X6_pairError_61, m_X6_pairError_62, m_X6_pairError_92, e0]
        by_cases h1 : T 3 i = T 3 j
        · by_cases h2 : T 9 i = 0
          · by_cases h3 : T 9 j = 0
            · simp [bI, h1, h2, h3]
            · simp [bI, h1, h2, h3]
          · simp [bI, h1, h2]
        · by_cases h2 : T 9 i = 0
          · by_cases h3 : T 9 j = 0
            · simp [bI, h1, h2, h3]
            · simp [bI, h1, h2, h3]
          · simp [bI, h1, h2]
theorem s_strikeError (h : Iv T n) (a b w : Int32) : m_X4_strikeError a b w T = some (pE T n a b (wi w 1 9), T) := by
  unfold m_X4_strikeError
  rw [s_isWithin, bnd_s, s_pairError h, bnd_s]
theorem s_strikeErrorM (hn : n ≤ 30) (hR : RS T (TM 1) 0 n) (a b w : Int32) : m_X6_strikeError a b w TM = some (pE T n a b (wi w 1 9), TM) := by
  unfold m_X6_strikeError
  rw [s_in, bnd_s, s_pairErrorM hn hR, bnd_s]
theorem s_boutError (h : Iv T n) (a b w : Int32) : m_X4_boutError a b w T = some (pE T n a b (wi w 0 65535), T) := by
  unfold m_X4_boutError
  rw [s_isWithin, bnd_s, s_pairError h, bnd_s]
theorem s_boutErrorM (hn : n ≤ 30) (hR : RS T (TM 1) 0 n) (a b w : Int32) : m_X6_boutError a b w TM = some (pE T n a b (wi w 0 65535), TM) := by
  unfold m_X6_boutError
  rw [s_in, bnd_s, s_pairErrorM hn hR, bnd_s]
/-- no error: two conkers in play of two players -/
theorem pE_0 {a b : Int32} {v : Bool} (hn : n ≤ 30) (h : pE T n a b v = 0) : ∃ i j, i < n ∧ j < n ∧ a = nI i ∧ b = nI j ∧ v = true ∧ i ≠ j ∧ T 3 i ≠ T 3 j ∧ T 9 i = 0 ∧ T 9 j = 0 := by
  unfold pE at h
  by_cases h1 : hC a n = true ∧ hC b n = true
  · rw [if_pos h1] at h
    obtain ⟨i, hi, rfl⟩ := hC_t h1.1 (by omega)
    obtain ⟨j, hj, rfl⟩ := hC_t h1.2 (by omega)
    rw [cl_nI (by omega), cl_nI (by omega)] at h
    cases v with
    | false =>
      rw [if_neg (by decide)] at h
      exact absurd h (by decide)
    | true =>
      rw [if_pos rfl] at h
      by_cases h2 : T 3 i = T 3 j ∨ ¬ (T 9 i = 0 ∧ T 9 j = 0)
      · rw [if_pos h2] at h
        exact absurd h (by decide)
      · have h3 : ¬ T 3 i = T 3 j := fun q => h2 (Or.inl q)
        have h4 : T 9 i = 0 ∧ T 9 j = 0 := Classical.byContradiction (fun q => h2 (Or.inr q))
        exact ⟨i, j, hi, hj, rfl, rfl, rfl, fun e => h3 (by rw [e]), h3, h4.1, h4.2⟩
  · rw [if_neg h1] at h
    exact absurd h (by decide)
end QUERIES
