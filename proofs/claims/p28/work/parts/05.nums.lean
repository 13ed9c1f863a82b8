/-! NUMBERS AND COUNTS, for what the mirrors compute -/
/-! (not by rfl: a step that is taken by definition lets the kernel unfold a loop's fuel) -/
theorem e_nr {α : Type} {a b : α} (h : ∀ y, y = b → a = y) : a = b := h b rfl
theorem gd_t {ρ : Type} (X : Option ρ) : gd true X = X := e_nr (fun y hy => by rw [hy]; rfl)
theorem gd_f {ρ : Type} (X : Option ρ) : gd false X = none := e_nr (fun y hy => by rw [hy]; rfl)
theorem nm_u {α ρ : Type} (e : α) (F : α → ρ) : nm e F = F e := e_nr (fun y hy => by rw [hy]; rfl)
theorem bnd_s {σ τ : Type} (r : Int32) (t : τ) (F : Int32 → τ → Option (Int32 × σ)) : bnd (some (r, t)) F = F r t := e_nr (fun y hy => by rw [hy]; rfl)
theorem ib_nI {c N : Nat} (h : c < N) (hN : N < 2 ^ 31) : ib (nI c) N = true := by
  have h1 : c < 2 ^ 31 := by omega
  simp [ib, nI_clamp h1, nI_pos h1, h]
theorem cl_nI {c : Nat} (h : c < 2 ^ 31) : (nI c).toNatClampNeg = c := nI_clamp h
theorem wT_get (T : Tm) (a j : Nat) (v : Int32) (b i : Nat) : wT T a j v b i = if b = a then (if i = j then v else T a i) else T b i := by
  by_cases h : b = a
  · subst h; simp [wT, upd]
  · simp [wT, h]
theorem wT_ss (T : Tm) (a j : Nat) (v : Int32) : wT T a j v a j = v := by rw [wT_get, if_pos rfl, if_pos rfl]
theorem wT_sn (T : Tm) (a : Nat) {j i : Nat} (v : Int32) (h : i ≠ j) : wT T a j v a i = T a i := by rw [wT_get, if_pos rfl, if_neg h]
theorem wT_n (T : Tm) {a b : Nat} (j : Nat) (v : Int32) (i : Nat) (h : b ≠ a) : wT T a j v b i = T b i := by rw [wT_get, if_neg h]
theorem uM_get (M : Mm) (k : Nat) (T : Tm) (q : Nat) : uM M k T q = if q = k then T else M q := rfl
theorem wM_get (M : Mm) (k a j : Nat) (v : Int32) (q : Nat) : wM M k a j v q = if q = k then wT (M k) a j v else M q := rfl
theorem nb_z0 : nb .boolean 0 = true := by decide
theorem nb_z1 : nb .boolean 1 = true := by decide
theorem nb_char {n : Nat} (h : n < 65536) : nb .char (nI n) = true := by
  have e : vp_nar .char (nI n) = nI n := by
    have e1 := (pk_charN h).1
    simp only [vp_nar, e1]
  exact decide_eq_true e
theorem mn_e (a b : Int32) : mn a b = if b < a then b else a := rfl
theorem mx_e (a b : Int32) : mx a b = if a < b then b else a := rfl
theorem nI_inj {a b : Nat} (ha : a < 2 ^ 31) (hb : b < 2 ^ 31) (h : nI a = nI b) : a = b := (nI_eq ha hb).mp h
theorem nI_toI {n : Nat} (h : n < 2 ^ 31) : (nI n).toInt = n := nI_toInt h
/-- the count of the numbers below n with a property -/
def cnt (P : Nat → Bool) : Nat → Nat
  | 0 => 0
  | n + 1 => cnt P n + (if P n then 1 else 0)
theorem cnt_le (P : Nat → Bool) (n : Nat) : cnt P n ≤ n := by
  induction n with
  | zero => exact Nat.le_refl _
  | succ n ih =>
    unfold cnt
    split <;> omega
theorem cnt_congr {P Q : Nat → Bool} {n : Nat} (h : ∀ i, i < n → P i = Q i) : cnt P n = cnt Q n := by
  induction n with
  | zero => rfl
  | succ n ih =>
    unfold cnt
    rw [ih (fun i hi => h i (by omega)), h n (by omega)]
theorem cnt_set {P Q : Nat → Bool} {n g : Nat} (hg : g < n) (h0 : P g = false) (h1 : Q g = true) (h : ∀ i, i < n → i ≠ g → P i = Q i) : cnt Q n = cnt P n + 1 := by
  induction n with
  | zero => omega
  | succ n ih =>
    unfold cnt
    by_cases hn : g = n
    · subst hn
      rw [cnt_congr (P := Q) (Q := P) (fun i hi => (h i (by omega) (by omega)).symm), h0, h1]
      simp
    · rw [ih (by omega) (fun i hi hne => h i (by omega) hne), h n (by omega) (fun e => hn e.symm)]
      omega
theorem cnt_not {P Q : Nat → Bool} {n : Nat} (h : ∀ i, i < n → P i = !Q i) : cnt P n + cnt Q n = n := by
  induction n with
  | zero => rfl
  | succ n ih =>
    unfold cnt
    have h1 := ih (fun i hi => h i (by omega))
    rw [h n (by omega)]
    cases Q n <;> simp <;> omega
/-- sums -/
def sm (v : Nat → Nat) : Nat → Nat
  | 0 => 0
  | n + 1 => sm v n + v n
theorem sm_congr {v w : Nat → Nat} {n : Nat} (h : ∀ i, i < n → v i = w i) : sm v n = sm w n := by
  induction n with
  | zero => rfl
  | succ n ih =>
    unfold sm
    rw [ih (fun i hi => h i (by omega)), h n (by omega)]
theorem sm_set {v w : Nat → Nat} {n g : Nat} (hg : g < n) (h : ∀ i, i < n → i ≠ g → v i = w i) : sm w n + v g = sm v n + w g := by
  induction n with
  | zero => omega
  | succ n ih =>
    unfold sm
    by_cases hn : g = n
    · subst hn
      rw [sm_congr (v := w) (w := v) (fun i hi => (h i (by omega) (by omega)).symm)]
      omega
    · have := ih (by omega) (fun i hi hne => h i (by omega) hne)
      rw [h n (by omega) (fun e => hn e.symm)]
      omega
theorem sm_one {v : Nat → Nat} {n g : Nat} (hg : g < n) : v g ≤ sm v n := by
  induction n with
  | zero => omega
  | succ n ih =>
    unfold sm
    by_cases hn : g = n
    · subst hn; omega
    · have := ih (by omega); omega
/-- is a number one of a conker: 0 to n - 1 -/
def hC (a : Int32) (n : Nat) : Bool := decide (0 ≤ a) && decide (a.toNatClampNeg < n)
theorem hC_t {a : Int32} {n : Nat} (h : hC a n = true) (hn : n < 2 ^ 31) : ∃ j, j < n ∧ a = nI j := by
  simp only [hC, Bool.and_eq_true, decide_eq_true_eq] at h
  obtain ⟨j, hj, rfl⟩ := nI_of (x := a) (by
    intro h1
    have h2 := Int32.le_iff_toInt_le.mp h.1
    have h3 := Int32.lt_iff_toInt_lt.mp h1
    omega)
  rw [nI_clamp hj] at h
  exact ⟨j, h.2, rfl⟩
theorem hC_nI {j n : Nat} (h : j < n) (hn : n < 2 ^ 31) : hC (nI j) n = true := by
  have h1 : j < 2 ^ 31 := by omega
  simp [hC, nI_clamp h1, nI_pos' h1, h]
theorem hC_iff (a : Int32) {n : Nat} (hn : n < 2 ^ 30) : (0 ≤ a ∧ a ≤ nI n - 1) ↔ hC a n = true := by
  have e1 : (nI n - nI 1).toInt = (n : Int) - 1 := pk_sub_toInt (by omega) (by omega)
  have e2 : nI n - 1 = nI n - nI 1 := rfl
  constructor
  · intro ⟨h1, h2⟩
    obtain ⟨j, hj, rfl⟩ := nI_of (x := a) (by
      intro h3
      have h4 := Int32.le_iff_toInt_le.mp h1
      have h5 := Int32.lt_iff_toInt_lt.mp h3
      omega)
    rw [e2] at h2
    have h4 := Int32.le_iff_toInt_le.mp h2
    rw [e1, nI_toInt hj] at h4
    exact hC_nI (by omega) (by omega)
  · intro h
    obtain ⟨j, hj, rfl⟩ := hC_t h (by omega)
    refine ⟨nI_pos' (by omega), ?_⟩
    rw [e2]
    apply Int32.le_iff_toInt_le.mpr
    rw [e1, nI_toInt (by omega)]
    omega
theorem nI_p0 : (0 : Int32) = nI 0 := rfl
theorem nI_p1 (x : Nat) : nI x + 1 = nI (x + 1) := nI_add x 1
theorem nI_p2 (x : Nat) : nI x + 2 = nI (x + 2) := nI_add x 2
theorem nI_p3 (x : Nat) : nI x + 3 = nI (x + 3) := nI_add x 3
theorem nI_p4 (x : Nat) : nI x + 4 = nI (x + 4) := nI_add x 4
theorem nI_p5 (x : Nat) : nI x + 5 = nI (x + 5) := nI_add x 5
theorem nI_p6 (x : Nat) : nI x + 6 = nI (x + 6) := nI_add x 6
theorem nI_p7 (x : Nat) : nI x + 7 = nI (x + 7) := nI_add x 7
theorem nI_m1 {x : Nat} (h : 1 ≤ x) : nI x - 1 = nI (x - 1) := pk_sub h
theorem nI_d1 {x : Nat} (h : 1 ≤ x) : nI x + (-1) = nI (x - 1) := by
  obtain ⟨y, rfl⟩ : ∃ y, x = y + 1 := ⟨x - 1, by omega⟩
  exact pk_m1 y
theorem nI_eq0 {n : Nat} (h : n < 2 ^ 31) : nI n = 0 ↔ n = 0 := nI_eq (b := 0) h (by decide)
theorem nI_nem5 {n : Nat} (h : n < 2 ^ 31) : ¬ nI n = (-5) := by
  intro e
  have e1 := congrArg Int32.toInt e
  rw [nI_toInt h] at e1
  have e2 : (-5 : Int32).toInt = -5 := by decide
  omega
theorem nI_nem1 {n : Nat} (h : n < 2 ^ 31) : ¬ nI n = (-1) := by
  intro e
  have e1 := congrArg Int32.toInt e
  rw [nI_toInt h] at e1
  have e2 : (-1 : Int32).toInt = -1 := by decide
  omega
theorem i_le_nlt {a b : Int32} : a ≤ b ↔ ¬ b < a := by
  rw [Int32.le_iff_toInt_le, Int32.lt_iff_toInt_lt]; omega
theorem i_lt_nle {a b : Int32} : a < b ↔ ¬ b ≤ a := by
  rw [Int32.le_iff_toInt_le, Int32.lt_iff_toInt_lt]; omega
/-- the test for a range, of both sides -/
def wi (a b c : Int32) : Bool := decide (b ≤ a) && decide (a ≤ c)
def bI (b : Bool) : Int32 := if b then 1 else 0
theorem bI_nb (b : Bool) : nb .boolean (bI b) = true := by cases b <;> decide
theorem bI_0 (b : Bool) : bI b = 0 ↔ b = false := by cases b <;> decide
theorem s_isWithin (a b c : Int32) (M : Mm) : m_X5_isWithin a b c M = some (bI (wi a b c), M) := by
  unfold m_X5_isWithin wi bI
  by_cases h1 : a < b
  · have h2 : ¬ b ≤ a := by rw [i_le_nlt]; simpa using h1
    rw [if_pos h1]
    simp [h2]
  · have h2 : b ≤ a := by rw [i_le_nlt]; exact h1
    rw [if_neg h1]
    by_cases h3 : c < a
    · have h4 : ¬ a ≤ c := by rw [i_le_nlt]; simpa using h3
      rw [if_pos h3]
      simp [h4]
    · have h4 : a ≤ c := by rw [i_le_nlt]; exact h3
      rw [if_neg h3]
      simp [h2, h4]
theorem wi_hC (a : Int32) {n : Nat} (hn : n < 2 ^ 30) : wi a 0 (nI n - 1) = hC a n := by
  unfold wi
  cases hb : hC a n with
  | true =>
    have h := (hC_iff a hn).mpr hb
    simp [h.1, h.2]
  | false =>
    have h : ¬ (0 ≤ a ∧ a ≤ nI n - 1) := fun q => by
      have e := (hC_iff a hn).mp q
      rw [hb] at e
      cases e
    by_cases h1 : 0 ≤ a
    · have h2 : ¬ a ≤ nI n - 1 := fun q => h ⟨h1, q⟩
      simp [h2]
    · simp [h1]
theorem s_isPlayer (a : Int32) (M : Mm) : m_X5_isPlayer a M = some (bI (hC a 6), M) := by
  unfold m_X5_isPlayer
  rw [s_isWithin, bnd_s]
  have e : wi a 0 5 = hC a 6 := wi_hC a (n := 6) (by decide)
  rw [e, bI_nb, gd_t]
/-! THE RELATION of a state of the game (a block T) and a state of the reference (the row s from place o on), and the queries of both -/
def nby (T : Tm) : Nat → Bool := fun c => !decide (T 10 c = (-5))
def Iv (T : Tm) (n : Nat) : Prop :=
  n ≤ 30 ∧ T 0 10 = nI n ∧
  (∀ p, p < 6 → ∃ j, j ≤ 20 ∧ T 1 p = nI j) ∧
  (∀ c, c < n → ∃ j, j < 6 ∧ T 3 c = nI j) ∧
  (∀ c, c < n → ∃ j, 1 ≤ j ∧ j ≤ 9 ∧ T 4 c = nI j) ∧
  (∀ c, c < n → T 10 c = (-5) ∨ ∃ j, j < n ∧ T 10 c = nI j) ∧
  (∀ c, c < n → T 10 c ≠ (-5) → T 9 c = 2) ∧
  (∃ (v : Nat → Nat) (l : Nat), (∀ c, c < n → T 7 c = nI (v c)) ∧ T 0 11 = nI l ∧ sm v n + l = cnt (nby T) n) ∧
  (∃ d : Nat → Nat, (∀ c, c < n → d c ≤ cnt (nby T) n) ∧ ∀ c j, c < n → j < n → T 10 c = nI j → d j < d c)
section QUERIES
variable {T : Tm} {n o : Nat}
theorem iv_n (h : Iv T n) : n ≤ 30 := h.1
theorem iv_N (h : Iv T n) : T 0 10 = nI n := h.2.1
theorem iv_str (h : Iv T n) : ∀ p, p < 6 → ∃ j, j ≤ 20 ∧ T 1 p = nI j := h.2.2.1
theorem iv_own (h : Iv T n) : ∀ c, c < n → ∃ j, j < 6 ∧ T 3 c = nI j := h.2.2.2.1
theorem iv_hard (h : Iv T n) : ∀ c, c < n → ∃ j, 1 ≤ j ∧ j ≤ 9 ∧ T 4 c = nI j := h.2.2.2.2.1
theorem iv_by (h : Iv T n) : ∀ c, c < n → T 10 c = (-5) ∨ ∃ j, j < n ∧ T 10 c = nI j := h.2.2.2.2.2.1
theorem iv_by2 (h : Iv T n) : ∀ c, c < n → T 10 c ≠ (-5) → T 9 c = 2 := h.2.2.2.2.2.2.1
theorem iv_v (h : Iv T n) : ∃ (v : Nat → Nat) (l : Nat), (∀ c, c < n → T 7 c = nI (v c)) ∧ T 0 11 = nI l ∧ sm v n + l = cnt (nby T) n := h.2.2.2.2.2.2.2.1
theorem iv_d (h : Iv T n) : ∃ d : Nat → Nat, (∀ c, c < n → d c ≤ cnt (nby T) n) ∧ ∀ c j, c < n → j < n → T 10 c = nI j → d j < d c := h.2.2.2.2.2.2.2.2
theorem s_hasConker (h : Iv T n) (a : Int32) : m_X4_hasConker a T = some (bI (hC a n), T) := by
  have hn := iv_n h
  unfold m_X4_hasConker
  rw [nm_u, iv_N h, s_isWithin, bnd_s, wi_hC a (by omega), bI_nb, gd_t]
theorem cl0 : (0 : Int32).toNatClampNeg = 0 := by decide
theorem ib0 {N : Nat} (h : 0 < N) (hN : N < 2 ^ 31) : ib 0 N = true := ib_nI (c := 0) h hN
/-- both in play? -/
theorem s_areInPlay (h : Iv T n) {a b : Nat} (ha : a < n) (hb : b < n) : m_X4_areInPlay (nI a) (nI b) T = some (bI (decide (T 9 a = 0) && decide (T 9 b = 0)), T) := by
  have hn := iv_n h
  unfold m_X4_areInPlay
  simp (disch := omega) only [ib_nI, gd_t, nm_u, cl_nI]
  by_cases h1 : T 9 a = 0
  · by_cases h2 : T 9 b = 0
    · simp [h1, h2, bI]
    · simp [h1, h2, bI]
  · simp [h1, bI]
/-- the error of a pair, on both sides -/
def pE (T : Tm) (n : Nat) (a b : Int32) (v : Bool) : Int32 :=
  if hC a n = true ∧ hC b n = true then (if v then (if T 3 a.toNatClampNeg = T 3 b.toNatClampNeg ∨ ¬ (T 9 a.toNatClampNeg = 0 ∧ T 9 b.toNatClampNeg = 0) then (-4) else 0) else (-2)) else (-1)
theorem s_pairError (h : Iv T n) (a b : Int32) (v : Bool) : m_X4_pairError a b (bI v) T = some (pE T n a b v, T) := by
  have hn := iv_n h
  unfold m_X4_pairError
  rw [s_hasConker h, bnd_s]
  cases ha : hC a n with
  | false => simp [bI, pE, ha]
  | true =>
    rw [s_hasConker h, bnd_s]
    cases hb : hC b n with
    | false => simp [bI, pE, ha, hb]
    | true =>
      cases v with
      | false => simp [bI, pE, ha, hb]
      | true =>
        obtain ⟨i, hi, rfl⟩ := hC_t ha (by omega)
        obtain ⟨j, hj, rfl⟩ := hC_t hb (by omega)
        simp (disch := omega) only [ib_nI, gd_t, nm_u, cl_nI, s_areInPlay h hi hj, bnd_s, pE, ha, hb]
        by_cases h1 : T 3 i = T 3 j
        · simp [bI, h1, m_X4_pairError_49]
        · by_cases h2 : T 9 i = 0
          · by_cases h3 : T 9 j = 0
            · simp [bI, h1, h2, h3]
            · simp [bI, h1, h2, h3, m_X4_pairError_49]
          · simp [bI, h1, h2, m_X4_pairError_49]
theorem s_strikeError (h : Iv T n) (a b w : Int32) : m_X4_strikeError a b w T = some (pE T n a b (wi w 1 9), T) := by
  unfold m_X4_strikeError
  rw [s_isWithin, bnd_s, s_pairError h, bnd_s]
theorem s_boutError (h : Iv T n) (a b w : Int32) : m_X4_boutError a b w T = some (pE T n a b (wi w 0 65535), T) := by
  unfold m_X4_boutError
  rw [s_isWithin, bnd_s, s_pairError h, bnd_s]
/-- no error: two conkers in play of two players -/
theorem pE_0 {a b : Int32} {v : Bool} (hn : n ≤ 30) (h : pE T n a b v = 0) : ∃ i j, i < n ∧ j < n ∧ a = nI i ∧ b = nI j ∧ v = true ∧ i ≠ j ∧ T 3 i ≠ T 3 j ∧ T 9 i = 0 ∧ T 9 j = 0 := by
  unfold pE at h
  by_cases h1 : hC a n = true ∧ hC b n = true
  · rw [if_pos h1] at h
    obtain ⟨i, hi, rfl⟩ := hC_t h1.1 (by omega)
    obtain ⟨j, hj, rfl⟩ := hC_t h1.2 (by omega)
    rw [cl_nI (by omega), cl_nI (by omega)] at h
    cases v with
    | false =>
      rw [if_neg (by decide)] at h
      exact absurd h (by decide)
    | true =>
      rw [if_pos rfl] at h
      by_cases h2 : T 3 i = T 3 j ∨ ¬ (T 9 i = 0 ∧ T 9 j = 0)
      · rw [if_pos h2] at h
        exact absurd h (by decide)
      · have h3 : ¬ T 3 i = T 3 j := fun q => h2 (Or.inl q)
        have h4 : T 9 i = 0 ∧ T 9 j = 0 := Classical.byContradiction (fun q => h2 (Or.inr q))
        exact ⟨i, j, hi, hj, rfl, rfl, rfl, fun e => h3 (by rw [e]), h3, h4.1, h4.2⟩
  · rw [if_neg h1] at h
    exact absurd h (by decide)
end QUERIES

