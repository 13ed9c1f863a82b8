/-! THE SCRIPT: both readers go alike -/
section SCRIPT
variable {S TM : Tm} {L i : Nat} {χ : Nat → Nat}
theorem nlt {a b : Nat} (h : b ≤ a) (ha : a < 2 ^ 31) : ¬ nI a < nI b := fun e => i_lt_nle.mp e (nI_le h ha)
theorem nn0 {a : Nat} (ha : a < 2 ^ 31) : ¬ nI a < 0 := nlt (b := 0) (Nat.zero_le _) ha
theorem wT_id {T : Tm} {a j : Nat} {v : Int32} (h : T a j = v) : wT T a j v = T := by
  funext b k
  rw [wT_get]
  by_cases h1 : b = a
  · subst h1
    by_cases h2 : k = j
    · subst h2
      rw [if_pos rfl, if_pos rfl, h]
    · rw [if_pos rfl, if_neg h2]
  · rw [if_neg h1]
theorem wT_wT (T : Tm) (a j : Nat) (v w : Int32) : wT (wT T a j v) a j w = wT T a j w := by
  funext b k
  simp only [wT_get]
  by_cases h1 : b = a
  · subst h1
    by_cases h2 : k = j <;> simp [h2]
  · simp [h1]
/-- the text of both sides -/
def TX (S TM : Tm) (L : Nat) (χ : Nat → Nat) : Prop := L ≤ 60 ∧ S 0 1 = nI L ∧ TM 0 4 = nI L ∧ (∀ j, j < L → 32 ≤ χ j ∧ χ j ≤ 126 ∧ S 1 j = nI (χ j) ∧ TM 2 j = nI (χ j)) ∧ ∀ j, L ≤ j → χ j = 0
theorem tx_of {M : Mm} (h : TxR M TM L) : ∃ χ, TX (M 9) TM L χ := by
  obtain ⟨h1, h2, h3, h4⟩ := h
  refine ⟨fun j => if j < L then (M 9 1 j).toNatClampNeg else 0, h1, h2, h3, fun j hj => ?_, fun j hj => ?_⟩
  · obtain ⟨c, g1, g2, g3, g4⟩ := h4 j hj
    have e : (if j < L then (M 9 1 j).toNatClampNeg else 0) = c := by rw [if_pos hj, g3, cl_nI (by omega)]
    show 32 ≤ (if j < L then (M 9 1 j).toNatClampNeg else 0) ∧ (if j < L then (M 9 1 j).toNatClampNeg else 0) ≤ 126 ∧ M 9 1 j = nI (if j < L then (M 9 1 j).toNatClampNeg else 0) ∧ TM 2 j = nI (if j < L then (M 9 1 j).toNatClampNeg else 0)
    rw [e]
    exact ⟨g1, g2, g3, g4⟩
  · show (if j < L then (M 9 1 j).toNatClampNeg else 0) = 0
    rw [if_neg (by omega)]
theorem tx_S (h : TX S TM L χ) {j : Nat} (hj : j ≠ 1) (v : Int32) : TX (wT S 0 j v) TM L χ := by
  obtain ⟨h1, h2, h3, h4, h5⟩ := h
  exact ⟨h1, by rw [wT_sn _ _ _ (fun e => hj e.symm)]; exact h2, h3, fun k hk => by rw [wT_n _ _ _ _ (by decide)]; exact h4 k hk, h5⟩
theorem tx_T (h : TX S TM L χ) {j : Nat} (hj : j ≠ 4) (v : Int32) : TX S (wT TM 0 j v) L χ := by
  obtain ⟨h1, h2, h3, h4, h5⟩ := h
  exact ⟨h1, h2, by rw [wT_sn _ _ _ (fun e => hj e.symm)]; exact h3, fun k hk => by rw [wT_n _ _ _ _ (by decide)]; exact h4 k hk, h5⟩
theorem tx_lt (h : TX S TM L χ) {k : Nat} (h0 : χ k ≠ 0) : k < L := by
  by_cases hk : k < L
  · exact hk
  · exact absurd (h.2.2.2.2 k (by omega)) h0
theorem tx_le (h : TX S TM L χ) (k : Nat) : χ k ≤ 126 := by
  by_cases hk : k < L
  · exact (h.2.2.2.1 k hk).2.1
  · rw [h.2.2.2.2 k (by omega)]; omega
theorem s_sign (h : TX S TM L χ) (hi : S 0 2 = nI i) (hL : i ≤ L) : m_X3_sign S = some (nI (χ i), S) := by
  have h60 := h.1
  unfold m_X3_sign
  simp only [nm_u]
  rw [hi, h.2.1, if_neg (nn0 (by omega))]
  by_cases hlt : i < L
  · have hc := h.2.2.2.1 i hlt
    rw [if_neg (nI_ge (by omega) (by omega)), ib_nI (by omega) (by decide), gd_t, cl_nI (by omega), hc.2.2.1, nb_char (by omega), gd_t]
  · rw [if_pos (nI_le (by omega) (by omega)), h.2.2.2.2 i (by omega)]
    rfl
def dgB (c : Nat) : Bool := decide (48 ≤ c) && decide (c ≤ 57)
theorem dgB_t {c : Nat} (h : dgB c = true) : 48 ≤ c ∧ c ≤ 57 := by
  unfold dgB at h
  rw [Bool.and_eq_true, decide_eq_true_eq, decide_eq_true_eq] at h
  exact h
theorem dgB_f {c : Nat} (h : dgB c = false) : c < 48 ∨ 57 < c := by
  unfold dgB at h
  by_cases h1 : 48 ≤ c
  · by_cases h2 : c ≤ 57
    · simp [h1, h2] at h
    · omega
  · omega
def dV (c : Nat) : Int32 := if dgB c then nI (c - 48) else (-5)
theorem dV_t {c : Nat} (h : dgB c = true) : dV c = nI (c - 48) := by unfold dV; rw [h]; rfl
theorem dV_f {c : Nat} (h : dgB c = false) : dV c = (-5) := by unfold dV; rw [h]; rfl
theorem s_digit (h : TX S TM L χ) (hi : S 0 2 = nI i) (hL : i ≤ L) : m_X3_digit S = some (dV (χ i), S) := by
  have hc := tx_le h i
  unfold m_X3_digit
  rw [s_sign h hi hL, bnd_s]
  cases hd : dgB (χ i) with
  | true =>
    have h1 := dgB_t hd
    have c1 : ¬ nI (χ i) < 48 := nlt (b := 48) h1.1 (by omega)
    have c2 : ¬ 57 < nI (χ i) := nlt (a := 57) h1.2 (by decide)
    have e : nI (χ i) - 48 = nI (χ i - 48) := pk_sub (b := 48) h1.1
    rw [if_neg c1, if_neg c2, dV_t hd, e]
  | false =>
    rw [dV_f hd]
    rcases dgB_f hd with h1 | h1
    · have c1 : nI (χ i) < 48 := nI_lt (b := 48) h1 (by decide)
      rw [if_pos c1]
    · have c1 : ¬ nI (χ i) < 48 := nlt (b := 48) (by omega) (by omega)
      have c2 : 57 < nI (χ i) := nI_lt (a := 57) h1 (by omega)
      rw [if_neg c1, if_pos c2]
def twB (χ : Nat → Nat) (i : Nat) : Bool := (decide (χ i = 49) || decide (χ i = 50)) && dgB (χ (i + 1))
def nV (χ : Nat → Nat) (i : Nat) : Int32 := if dgB (χ i) then (if twB χ i then nI (10 * (χ i - 48) + (χ (i + 1) - 48)) else nI (χ i - 48)) else (-5)
def nP (χ : Nat → Nat) (i : Nat) : Nat := if dgB (χ i) then (if twB χ i then i + 2 else i + 1) else i
theorem nV_or (h : TX S TM L χ) (i : Nat) : (nV χ i = (-5) ∧ nP χ i = i) ∨ ∃ k, k < 2000 ∧ nV χ i = nI k ∧ i < nP χ i := by
  unfold nV nP
  cases hd : dgB (χ i) with
  | false => exact Or.inl ⟨rfl, rfl⟩
  | true =>
    have h1 := dgB_t hd
    have h2 := tx_le h (i + 1)
    cases ht : twB χ i with
    | true => exact Or.inr ⟨_, (by omega), rfl, (by simp)⟩
    | false => exact Or.inr ⟨_, (by omega), rfl, (by simp)⟩
theorem nP_le (h : TX S TM L χ) {i : Nat} (hL : i ≤ L) : nP χ i ≤ L ∧ i ≤ nP χ i := by
  unfold nP
  cases hd : dgB (χ i) with
  | false => exact ⟨hL, Nat.le_refl _⟩
  | true =>
    have h1 := dgB_t hd
    have g1 := tx_lt h (k := i) (by omega)
    cases ht : twB χ i with
    | true =>
      unfold twB at ht
      rw [Bool.and_eq_true] at ht
      have h2 := dgB_t ht.2
      have g2 := tx_lt h (k := i + 1) (by omega)
      simp
      omega
    | false =>
      simp
      omega
theorem s_readConker (h : TX S TM L χ) (hi : S 0 2 = nI i) (hL : i ≤ L) : m_X3_readConker S = some (nV χ i, wT S 0 2 (nI (nP χ i))) := by
  have h60 := h.1
  unfold m_X3_readConker
  rw [s_digit h hi hL, bnd_s]
  unfold nV nP
  cases hd : dgB (χ i) with
  | false =>
    have c : ¬ (0 : Int32) ≤ (-5) := by decide
    rw [dV_f hd, if_neg c]
    simp only [Bool.false_eq_true, if_false]
    rw [wT_id hi]
  | true =>
    have h1 := dgB_t hd
    have g1 := tx_lt h (k := i) (by omega)
    have g2 := tx_le h (i + 1)
    have c : (0 : Int32) ≤ nI (χ i - 48) := nI_pos' (by omega)
    rw [dV_t hd, if_pos c]
    simp only [nm_u]
    rw [hi, nI_p1, s_digit (tx_S h (by decide) _) (wT_ss _ _ _ _) (by omega), bnd_s]
    have e1 : ∀ k : Nat, k < 10 → (nI (χ i - 48) = nI k ↔ χ i = 48 + k) := fun k hk => by
      rw [nI_eq (by omega) (by omega)]
      omega
    have q1 : (nI (χ i - 48) = 1) ↔ χ i = 49 := e1 1 (by decide)
    have q2 : (nI (χ i - 48) = 2) ↔ χ i = 50 := e1 2 (by decide)
    have both : (χ i = 49 ∨ χ i = 50) → m_X3_readConker_37 (nI (χ i - 48)) (dV (χ (i + 1))) (wT S 0 2 (nI (i + 1))) = some (if true = true then if twB χ i = true then nI (10 * (χ i - 48) + (χ (i + 1) - 48)) else nI (χ i - 48) else -5, wT S 0 2 (nI (if true = true then if twB χ i = true then i + 2 else i + 1 else i))) := by
      intro ho
      have et : twB χ i = dgB (χ (i + 1)) := by
        unfold twB
        rcases ho with e | e <;> simp [e]
      unfold m_X3_readConker_37 m_X3_readConker_58
      rw [et]
      cases hd2 : dgB (χ (i + 1)) with
      | false =>
        have c5 : ((-5) : Int32) < 0 := by decide
        rw [dV_f hd2, if_pos c5]
        simp
      | true =>
        have h2 := dgB_t hd2
        rw [dV_t hd2, if_neg (nn0 (by omega))]
        simp only [nm_u]
        rw [wT_ss, nI_p1, wT_wT, show (10 : Int32) = nI 10 from rfl, pk_mul, nI_add]
        simp
    by_cases h49 : χ i = 49
    · rw [if_pos (q1.mpr h49)]
      exact both (Or.inl h49)
    · rw [if_neg (fun e => h49 (q1.mp e))]
      by_cases h50 : χ i = 50
      · rw [if_pos (q2.mpr h50)]
        exact both (Or.inr h50)
      · rw [if_neg (fun e => h50 (q2.mp e))]
        unfold m_X3_readConker_58
        have et : twB χ i = false := by unfold twB; simp [h49, h50]
        rw [et]
        simp
theorem s_takeC (h : TX S TM L χ) (hi : S 0 2 = nI i) (hL : i ≤ L) {c : Nat} (hc : c < 2 ^ 31) : m_X3_take (nI c) S = some (bI (decide (χ i = c)), wT S 0 2 (nI (if χ i = c then i + 1 else i))) := by
  have hl := tx_le h i
  unfold m_X3_take
  rw [s_sign h hi hL, bnd_s]
  by_cases e : χ i = c
  · rw [e, if_pos rfl, if_pos rfl]
    simp only [nm_u]
    rw [hi, nI_p1]
    simp [bI]
  · rw [if_neg (fun e2 => e (nI_inj (by omega) hc e2)), if_neg e, wT_id hi]
    simp [bI, e]
theorem s_isHere (h : TX S TM L χ) (hi : TM 0 8 = nI i) (hL : i ≤ L) {a b : Nat} (ha : 1 ≤ a) (hb : b < 2 ^ 31) (ha2 : a < 2 ^ 31) : m_X6_isHere (nI a) (nI b) TM = some (bI (decide (a ≤ χ i) && decide (χ i ≤ b)), TM) := by
  have h60 := h.1
  have hl := tx_le h i
  unfold m_X6_isHere
  simp only [nm_u]
  rw [hi, h.2.2.1]
  by_cases hlt : i < L
  · have hc := h.2.2.2.1 i hlt
    rw [if_neg (nI_ge (by omega) (by omega)), ib_nI (by omega) (by decide), gd_t, cl_nI (by omega), hc.2.2.2, s_in, bnd_s]
    have e : wi (nI (χ i)) (nI a) (nI b) = (decide (a ≤ χ i) && decide (χ i ≤ b)) := by
      unfold wi
      by_cases h1 : a ≤ χ i
      · have c1 : nI a ≤ nI (χ i) := nI_le h1 (by omega)
        by_cases h2 : χ i ≤ b
        · have c2 : nI (χ i) ≤ nI b := nI_le h2 hb
          simp [h1, h2, c1, c2]
        · have c2 : ¬ nI (χ i) ≤ nI b := nI_ge (by omega) (by omega)
          simp [h1, h2, c1, c2]
      · have c1 : ¬ nI a ≤ nI (χ i) := nI_ge (by omega) ha2
        simp [h1, c1]
    rw [e]
    cases (decide (a ≤ χ i) && decide (χ i ≤ b)) with
    | true => rw [bf_t]; rfl
    | false => rw [bf_f]; rfl
  · rw [if_pos (nI_le (by omega) (by omega)), h.2.2.2.2 i (by omega)]
    have e : decide (a ≤ 0) = false := decide_eq_false (by omega)
    rw [e]
    rfl
theorem s_takes (h : TX S TM L χ) (hi : TM 0 8 = nI i) (hL : i ≤ L) {c : Nat} (hc1 : 1 ≤ c) (hc : c < 2 ^ 31) : m_X6_takes (nI c) TM = some (bI (decide (χ i = c)), wT TM 0 8 (nI (if χ i = c then i + 1 else i))) := by
  have h60 := h.1
  unfold m_X6_takes
  rw [s_isHere h hi hL hc1 hc hc, bnd_s, nm_u, s_flag, bnd_s, nm_u, hi]
  by_cases e : χ i = c
  · have e1 : (decide (c ≤ χ i) && decide (χ i ≤ c)) = true := by simp [e]
    have d1 : ¬ (1 : Int32) = 0 := by decide
    rw [e1, if_pos e, decide_eq_true e]
    unfold bI
    rw [if_pos rfl, if_neg d1, nb_z1, gd_t, nI_p1]
  · have e1 : (decide (c ≤ χ i) && decide (χ i ≤ c)) = false := by
      by_cases h1 : c ≤ χ i
      · have h2 : ¬ χ i ≤ c := by omega
        simp [h2]
      · simp [h1]
    have e2 : nI i + 0 = nI i := Int32.add_zero _
    rw [e1, if_neg e, decide_eq_false e]
    unfold bI
    rw [if_neg (by decide), if_pos rfl, nb_z0, gd_t, e2]
theorem s_number (h : TX S TM L χ) (hi : TM 0 8 = nI i) (hL : i ≤ L) : m_X6_number TM = some (nV χ i, wT TM 0 8 (nI (nP χ i))) := by
  have h60 := h.1
  have e48 : (48 : Int32) = nI 48 := rfl
  have e57 : (57 : Int32) = nI 57 := rfl
  have sh := s_isHere h hi hL (a := 48) (b := 57) (by decide) (by decide) (by decide)
  rw [show (decide (48 ≤ χ i) && decide (χ i ≤ 57)) = dgB (χ i) from rfl, ← e48, ← e57] at sh
  unfold m_X6_number m_X6_number_28
  rw [sh, bnd_s]
  unfold nV nP
  cases hd : dgB (χ i) with
  | false =>
    have e2 : nI i + 0 = nI i := Int32.add_zero _
    have w0 : wi (-5) 1 2 = false := by decide
    rw [bf_f]
    simp only [nm_u]
    rw [if_pos trivial]
    unfold m_X6_number_45
    rw [s_flag, bnd_s, if_pos rfl, nm_u, s_in, bnd_s, w0, bf_f, hi, e2]
    rfl
  | true =>
    have h1 := dgB_t hd
    have g1 := tx_lt h (k := i) (by omega)
    have g2 := tx_le h (i + 1)
    have hc := h.2.2.2.1 i g1
    have e1 : nI (χ i) - 48 = nI (χ i - 48) := pk_sub (b := 48) h1.1
    have d1 : ¬ (1 : Int32) = 0 := by decide
    rw [bf_t]
    simp only [nm_u]
    rw [hi, ib_nI (by omega) (by decide), gd_t, cl_nI (by omega), hc.2.2.2, e1, if_neg (nI_nem5 (by omega))]
    unfold m_X6_number_45
    rw [s_flag, bnd_s, if_neg d1, nm_u, nI_p1, s_in, bnd_s]
    have ew : wi (nI (χ i - 48)) 1 2 = (decide (χ i = 49) || decide (χ i = 50)) := by
      have h2 : χ i = 48 ∨ χ i = 49 ∨ χ i = 50 ∨ χ i = 51 ∨ χ i = 52 ∨ χ i = 53 ∨ χ i = 54 ∨ χ i = 55 ∨ χ i = 56 ∨ χ i = 57 := by omega
      rcases h2 with e | e | e | e | e | e | e | e | e | e <;> rw [e] <;> decide
    have hx2 := tx_T h (j := 8) (by decide) (nI (i + 1))
    have sh2 := s_isHere hx2 (wT_ss _ _ _ _) (show i + 1 ≤ L by omega) (a := 48) (b := 57) (by decide) (by decide) (by decide)
    rw [show (decide (48 ≤ χ (i + 1)) && decide (χ (i + 1) ≤ 57)) = dgB (χ (i + 1)) from rfl, ← e48, ← e57] at sh2
    rw [ew]
    cases ho : (decide (χ i = 49) || decide (χ i = 50)) with
    | false =>
      have et : twB χ i = false := by unfold twB; rw [ho]; rfl
      rw [bf_f, et]
      unfold m_X6_number_100
      simp
    | true =>
      rw [bf_t, sh2, bnd_s]
      have et : twB χ i = dgB (χ (i + 1)) := by unfold twB; rw [ho]; rfl
      rw [et]
      cases hd2 : dgB (χ (i + 1)) with
      | false =>
        rw [bf_f]
        unfold m_X6_number_100
        simp
      | true =>
        have h3 := dgB_t hd2
        have g3 := tx_lt h (k := i + 1) (by omega)
        have hc2 := h.2.2.2.1 (i + 1) g3
        rw [bf_t]
        simp only [nm_u]
        rw [wT_ss, ib_nI (by omega) (by decide), gd_t, cl_nI (by omega), wT_n _ _ _ _ (by decide), hc2.2.2.2, nI_p1, wT_wT, show (10 : Int32) = nI 10 from rfl, pk_mul, nI_add]
        unfold m_X6_number_100
        have e3 : nI (10 * (χ i - 48) + χ (i + 1)) - 48 = nI (10 * (χ i - 48) + (χ (i + 1) - 48)) := by
          have e4 := pk_sub (a := 10 * (χ i - 48) + χ (i + 1)) (b := 48) (by omega)
          have e5 : 10 * (χ i - 48) + χ (i + 1) - 48 = 10 * (χ i - 48) + (χ (i + 1) - 48) := by omega
          rw [e5] at e4
          exact e4
        rw [e3]
        simp
end SCRIPT
