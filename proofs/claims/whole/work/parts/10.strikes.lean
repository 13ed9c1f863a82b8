/-! A STRIKE of the reference, and that both say the same -/
def sS (TM : Tm) (s : Nat → Int32) : Tm := fun x => if x = 1 then s else TM x
theorem sS_1 (TM : Tm) (s : Nat → Int32) : sS TM s 1 = s := rfl
theorem sS_n (TM : Tm) (s : Nat → Int32) {x : Nat} (h : x ≠ 1) : sS TM s x = TM x := by simp [sS, h]
theorem sS_w (TM : Tm) (s : Nat → Int32) (j : Nat) (v : Int32) : wT (sS TM s) 1 j v = sS TM (upd s j v) := by
  funext x
  by_cases h : x = 1
  · subst h; simp [wT, sS]
  · simp [wT, sS, h]
theorem sS_u (TM : Tm) : sS TM (TM 1) = TM := by
  funext x
  by_cases h : x = 1
  · subst h; rfl
  · simp [sS, h]
theorem sS_w0 (TM : Tm) (j : Nat) (v : Int32) : wT TM 1 j v = sS TM (upd (TM 1) j v) := by
  conv => lhs; rw [← sS_u TM]
  rw [sS_w]
theorem sS_sS (TM : Tm) (s s' : Nat → Int32) : sS (sS TM s) s' = sS TM s' := by
  funext x
  by_cases h : x = 1
  · subst h; rfl
  · simp [sS, h]
theorem up_s (f : Nat → Int32) (k : Nat) (v : Int32) : upd f k v k = v := by simp [upd]
theorem up_n (f : Nat → Int32) {k j : Nat} (v : Int32) (h : j ≠ k) : upd f k v j = f j := by simp [upd, h]
/-- the row behind a smash at p -/
def smS (s : Nat → Int32) (p : Nat) (y : Int32) : Nat → Int32 := upd (upd (upd (upd s (p + 6) 2) (p + 4) 0) (p + 5) (-5)) (p + 7) y
def sK5 (s : Nat → Int32) (o p q a b : Nat) : Nat → Int32 :=
  if s (p + 2) = 100 then (if s (q + 2) = 100 then smS (smS (upd s (o + 1) (s (o + 1) + (s (p + 4) + s (q + 4)))) p (-5)) q (-5)
    else smS (upd (upd s (q + 4) (s (q + 4) + (1 + s (p + 4)))) (o + 3) (s (o + 3) + 1)) p (nI b))
  else (if s (q + 2) = 100 then smS (upd (upd s (p + 4) (s (p + 4) + (1 + s (q + 4)))) (o + 3) (s (o + 3) + 1)) q (nI a) else s)
def sK7 (s : Nat → Int32) (A B : Int32) (p q : Nat) : Nat → Int32 :=
  upd (upd s (p + 6) (if ¬ A = 100 ∧ s (p + 3) = 20 then 1 else s (p + 6))) (q + 6) (if ¬ B = 100 ∧ s (q + 3) = 20 then 1 else s (q + 6))
theorem c10 : ((1 : Int32) = 0) = False := eq_false (by decide)
theorem c00 : ((0 : Int32) = 0) = True := eq_true rfl
section STK
variable {T TM : Tm} {n : Nat}
theorem s_smashes (s : Nat → Int32) {p : Nat} (hp : p + 8 ≤ 2048) (y : Int32) : m_X6_smashes (nI p) y (sS TM s) = some (0, sS TM (smS s p y)) := by
  unfold m_X6_smashes smS
  rw [nI_p6, nI_p4, nI_p5, nI_p7, ib_nI (by omega) (by decide), ib_nI (by omega) (by decide), ib_nI (by omega) (by decide), ib_nI (by omega) (by decide)]
  simp only [gd_t]
  rw [nm_u, nm_u, nm_u, nm_u, cl_nI (by omega), cl_nI (by omega), cl_nI (by omega), cl_nI (by omega), sS_w, sS_w, sS_w, sS_w]
theorem s_480 (s : Nat → Int32) {p : Nat} (hp : p < 2048) (b7 b8 b9 b10 v : Int32) : m_X6_strikes_480 b7 b8 b9 b10 (nI p) v (sS TM s) = some ((if b7 = 0 then 0 else 1) + (2 * (if b8 = 0 then 0 else 1)) + (4 * (if b9 = 0 then 0 else 1)) + (8 * (if b10 = 0 then 0 else 1)), sS TM (upd s p v)) := by
  unfold m_X6_strikes_480
  rw [ib_nI hp (by decide), gd_t, nm_u, s_flag, bnd_s, s_flag, bnd_s, s_flag, bnd_s, s_flag, bnd_s, cl_nI (by omega), sS_w]
theorem s_451 (s : Nat → Int32) {p q : Nat} (hp : p < 2048) (hq : q + 8 ≤ 2048) (b7 b8 b9 b10 v : Int32) : m_X6_strikes_451 (nI q) b7 b8 b9 b10 (nI p) v (sS TM s) = some ((if b7 = 0 then 0 else 1) + (2 * (if b8 = 0 then 0 else 1)) + (4 * (if b9 = 0 then 0 else 1)) + (8 * (if b10 = 0 then 0 else 1)), sS TM (upd (upd s p v) (q + 6) (if b10 = 0 then upd s p v (q + 6) else 1))) := by
  unfold m_X6_strikes_451
  rw [nI_p6, ib_nI hp (by decide), gd_t, nm_u, cl_nI (by omega), sS_w, ib_nI (show q + 6 < 2048 by omega) (by decide), gd_t, nm_u, cl_nI (show q + 6 < 2 ^ 31 by omega), sS_1]
  by_cases h : b10 = 0
  · rw [if_pos h, s_480 _ (by omega), if_pos h, if_pos h]
  · rw [if_neg h, s_480 _ (by omega), if_neg h, if_neg h]
theorem s_421 (s : Nat → Int32) {p q : Nat} (hp : p + 8 ≤ 2048) (hq : q + 8 ≤ 2048) (b7 b8 b9 b10 : Int32) : m_X6_strikes_421 (nI p) (nI q) b7 b8 b9 b10 (sS TM s) = some ((if b7 = 0 then 0 else 1) + (2 * (if b8 = 0 then 0 else 1)) + (4 * (if b9 = 0 then 0 else 1)) + (8 * (if b10 = 0 then 0 else 1)), sS TM (upd (upd s (p + 6) (if b9 = 0 then s (p + 6) else 1)) (q + 6) (if b10 = 0 then upd s (p + 6) (if b9 = 0 then s (p + 6) else 1) (q + 6) else 1))) := by
  unfold m_X6_strikes_421
  rw [nI_p6, ib_nI (show p + 6 < 2048 by omega) (by decide), gd_t, nm_u, cl_nI (show p + 6 < 2 ^ 31 by omega), sS_1]
  by_cases h : b9 = 0
  · rw [if_pos h, s_451 _ (by omega) hq, if_pos h, if_pos h]
  · rw [if_neg h, s_451 _ (by omega) hq, if_neg h, if_neg h]
/-- from the flags on -/
theorem s_371 (s : Nat → Int32) {p q : Nat} (hp : p + 8 ≤ 2048) (hq : q + 8 ≤ 2048) (hpq : p + 8 ≤ q ∨ q + 8 ≤ p) (A B : Int32) : m_X6_strikes_371 (nI p) (nI q) (if A = 100 then 1 else 0) (if B = 100 then 1 else 0) (sS TM s) = some ((if A = 100 then 1 else if s (p + 3) = 20 then 4 else 0) + (if B = 100 then 2 else if s (q + 3) = 20 then 8 else 0), sS TM (sK7 s A B p q)) := by
  have hne : q + 6 ≠ p + 6 := by omega
  unfold m_X6_strikes_371 m_X6_strikes_394 m_X6_strikes_395 m_X6_strikes_420 sK7
  simp only [nI_p3]
  rw [ib_nI (show p + 3 < 2048 by omega) (by decide), ib_nI (show q + 3 < 2048 by omega) (by decide), cl_nI (show p + 3 < 2 ^ 31 by omega), cl_nI (show q + 3 < 2 ^ 31 by omega)]
  simp only [gd_t, nm_u, sS_1]
  by_cases hA : A = 100 <;> by_cases hB : B = 100 <;> by_cases h3 : s (p + 3) = 20 <;> by_cases h4 : s (q + 3) = 20
  all_goals
    simp only [hA, hB, h3, h4, if_true, if_false, s_421 s hp hq, not_true_eq_false, not_false_eq_true, true_and, false_and, and_true, and_false]
    simp [up_n _ _ hne]
theorem s_200 (s : Nat → Int32) {o p q a b : Nat} (ho : o + 16 ≤ p) (ho2 : o + 16 ≤ q) (hp : p + 8 ≤ 2048) (hq : q + 8 ≤ 2048) (hpq : p + 8 ≤ q ∨ q + 8 ≤ p) : m_X6_strikes_200 (nI o) (nI a) (nI b) (nI p) (nI q) (if s (p + 2) = 100 then 1 else 0) (sS TM s) = some ((if s (p + 2) = 100 then 1 else if sK5 s o p q a b (p + 3) = 20 then 4 else 0) + (if s (q + 2) = 100 then 2 else if sK5 s o p q a b (q + 3) = 20 then 8 else 0), sS TM (sK7 (sK5 s o p q a b) (s (p + 2)) (s (q + 2)) p q)) := by
  unfold m_X6_strikes_200 m_X6_strikes_221 m_X6_strikes_282 m_X6_strikes_292 m_X6_strikes_304 m_X6_strikes_318 m_X6_strikes_368
  simp only [nI_p1, nI_p2, nI_p3, nI_p4]
  rw [ib_nI (show q + 2 < 2048 by omega) (by decide), ib_nI (show o + 1 < 2048 by omega) (by decide), ib_nI (show o + 3 < 2048 by omega) (by decide), ib_nI (show p + 4 < 2048 by omega) (by decide), ib_nI (show q + 4 < 2048 by omega) (by decide), cl_nI (show q + 2 < 2 ^ 31 by omega), cl_nI (show o + 1 < 2 ^ 31 by omega), cl_nI (show o + 3 < 2 ^ 31 by omega), cl_nI (show p + 4 < 2 ^ 31 by omega), cl_nI (show q + 4 < 2 ^ 31 by omega)]
  simp only [gd_t]
  rw [nm_u, sS_1]
  have hq4 : o + 3 ≠ q + 4 := by omega
  have hp4 : o + 3 ≠ p + 4 := by omega
  by_cases hA : s (p + 2) = 100
  · by_cases hB : s (q + 2) = 100
    · have e : sK5 s o p q a b = smS (smS (upd s (o + 1) (s (o + 1) + (s (p + 4) + s (q + 4)))) p (-5)) q (-5) := by unfold sK5; rw [if_pos hA, if_pos hB]
      have k := s_371 (TM := TM) (smS (smS (upd s (o + 1) (s (o + 1) + (s (p + 4) + s (q + 4)))) p (-5)) q (-5)) hp hq hpq (s (p + 2)) (s (q + 2))
      rw [if_pos hA, if_pos hB] at k
      rw [e]
      simp only [hA, hB, c10, c00, if_true, if_false, nm_u, sS_1, sS_w, s_smashes _ hp, s_smashes _ hq, bnd_s]
      simpa [hA, hB] using k
    · have e : sK5 s o p q a b = smS (upd (upd s (q + 4) (s (q + 4) + (1 + s (p + 4)))) (o + 3) (s (o + 3) + 1)) p (nI b) := by unfold sK5; rw [if_pos hA, if_neg hB]
      have k := s_371 (TM := TM) (smS (upd (upd s (q + 4) (s (q + 4) + (1 + s (p + 4)))) (o + 3) (s (o + 3) + 1)) p (nI b)) hp hq hpq (s (p + 2)) (s (q + 2))
      rw [if_pos hA, if_neg hB] at k
      rw [e]
      simp only [hA, hB, c10, c00, if_true, if_false, nm_u, sS_1, sS_w, up_n _ _ hq4, s_smashes _ hp, bnd_s]
      simpa [hA, hB] using k
  · by_cases hB : s (q + 2) = 100
    · have e : sK5 s o p q a b = smS (upd (upd s (p + 4) (s (p + 4) + (1 + s (q + 4)))) (o + 3) (s (o + 3) + 1)) q (nI a) := by unfold sK5; rw [if_neg hA, if_pos hB]
      have k := s_371 (TM := TM) (smS (upd (upd s (p + 4) (s (p + 4) + (1 + s (q + 4)))) (o + 3) (s (o + 3) + 1)) q (nI a)) hp hq hpq (s (p + 2)) (s (q + 2))
      rw [if_neg hA, if_pos hB] at k
      rw [e]
      simp only [hA, hB, c10, c00, if_true, if_false, nm_u, sS_1, sS_w, up_n _ _ hp4, s_smashes _ hq, bnd_s]
      simpa [hA, hB] using k
    · have e : sK5 s o p q a b = s := by unfold sK5; rw [if_neg hA, if_neg hB]
      have k := s_371 (TM := TM) s hp hq hpq (s (p + 2)) (s (q + 2))
      rw [if_neg hA, if_neg hB] at k
      rw [e, if_neg hA, if_neg hB, if_pos rfl, if_pos rfl, if_pos rfl]
      simpa [hA, hB] using k
/-! what the row says behind the smashes, place by place -/
section K5
variable {s : Nat → Int32} {o p q a b : Nat}
theorem k5_off (hpq : p + 8 ≤ q ∨ q + 8 ≤ p) {x : Nat} (h1 : x ≠ o + 1) (h2 : x ≠ o + 3) (h3 : ¬ (p + 4 ≤ x ∧ x ≤ p + 7)) (h4 : ¬ (q + 4 ≤ x ∧ x ≤ q + 7)) : sK5 s o p q a b x = s x := by
  unfold sK5 smS
  split
  · split
    · simp (disch := omega) only [up_n]
    · simp (disch := omega) only [up_n]
  · split
    · simp (disch := omega) only [up_n]
    · rfl
theorem k5_p6 (ho : o + 16 ≤ p) (hpq : p + 8 ≤ q ∨ q + 8 ≤ p) : sK5 s o p q a b (p + 6) = if s (p + 2) = 100 then 2 else s (p + 6) := by
  unfold sK5 smS
  split
  · split
    · simp (disch := omega) only [up_n, up_s]
    · simp (disch := omega) only [up_n, up_s]
  · split
    · simp (disch := omega) only [up_n, up_s]
    · rfl
theorem k5_q6 (ho : o + 16 ≤ q) (hpq : p + 8 ≤ q ∨ q + 8 ≤ p) : sK5 s o p q a b (q + 6) = if s (q + 2) = 100 then 2 else s (q + 6) := by
  unfold sK5 smS
  split
  · split
    · simp (disch := omega) only [up_n, up_s]
    · simp (disch := omega) only [up_n, up_s]
  · split
    · simp (disch := omega) only [up_n, up_s]
    · rfl
theorem k5_p5 (ho : o + 16 ≤ p) (hpq : p + 8 ≤ q ∨ q + 8 ≤ p) : sK5 s o p q a b (p + 5) = if s (p + 2) = 100 then (-5) else s (p + 5) := by
  unfold sK5 smS
  split
  · split
    · simp (disch := omega) only [up_n, up_s]
    · simp (disch := omega) only [up_n, up_s]
  · split
    · simp (disch := omega) only [up_n, up_s]
    · rfl
theorem k5_q5 (ho : o + 16 ≤ q) (hpq : p + 8 ≤ q ∨ q + 8 ≤ p) : sK5 s o p q a b (q + 5) = if s (q + 2) = 100 then (-5) else s (q + 5) := by
  unfold sK5 smS
  split
  · split
    · simp (disch := omega) only [up_n, up_s]
    · simp (disch := omega) only [up_n, up_s]
  · split
    · simp (disch := omega) only [up_n, up_s]
    · rfl
theorem k5_p4 (ho : o + 16 ≤ p) (hpq : p + 8 ≤ q ∨ q + 8 ≤ p) : sK5 s o p q a b (p + 4) = if s (p + 2) = 100 then 0 else if s (q + 2) = 100 then s (p + 4) + (1 + s (q + 4)) else s (p + 4) := by
  unfold sK5 smS
  split
  · split
    · simp (disch := omega) only [up_n, up_s]
    · simp (disch := omega) only [up_n, up_s]
  · split
    · simp (disch := omega) only [up_n, up_s]
    · rfl
theorem k5_q4 (ho : o + 16 ≤ q) (hpq : p + 8 ≤ q ∨ q + 8 ≤ p) : sK5 s o p q a b (q + 4) = if s (q + 2) = 100 then 0 else if s (p + 2) = 100 then s (q + 4) + (1 + s (p + 4)) else s (q + 4) := by
  unfold sK5 smS
  by_cases h1 : s (p + 2) = 100 <;> by_cases h2 : s (q + 2) = 100
  all_goals
    simp only [h1, h2, if_true, if_false]
    try simp (disch := omega) only [up_n, up_s]
theorem k5_p7 (ho : o + 16 ≤ p) (hpq : p + 8 ≤ q ∨ q + 8 ≤ p) : sK5 s o p q a b (p + 7) = if s (p + 2) = 100 then (if s (q + 2) = 100 then (-5) else nI b) else s (p + 7) := by
  unfold sK5 smS
  by_cases h1 : s (p + 2) = 100 <;> by_cases h2 : s (q + 2) = 100
  all_goals
    simp only [h1, h2, if_true, if_false]
    try simp (disch := omega) only [up_n, up_s]
theorem k5_q7 (ho : o + 16 ≤ q) (hpq : p + 8 ≤ q ∨ q + 8 ≤ p) : sK5 s o p q a b (q + 7) = if s (q + 2) = 100 then (if s (p + 2) = 100 then (-5) else nI a) else s (q + 7) := by
  unfold sK5 smS
  by_cases h1 : s (p + 2) = 100 <;> by_cases h2 : s (q + 2) = 100
  all_goals
    simp only [h1, h2, if_true, if_false]
    try simp (disch := omega) only [up_n, up_s]
theorem k5_o1 (ho : o + 16 ≤ p) (ho2 : o + 16 ≤ q) : sK5 s o p q a b (o + 1) = if s (p + 2) = 100 ∧ s (q + 2) = 100 then s (o + 1) + (s (p + 4) + s (q + 4)) else s (o + 1) := by
  unfold sK5 smS
  by_cases h1 : s (p + 2) = 100 <;> by_cases h2 : s (q + 2) = 100
  all_goals
    simp only [h1, h2, if_true, if_false, and_true, and_false, and_self]
    try simp (disch := omega) only [up_n, up_s]
theorem k5_o3 (ho : o + 16 ≤ p) (ho2 : o + 16 ≤ q) : sK5 s o p q a b (o + 3) = if (s (p + 2) = 100 ↔ s (q + 2) = 100) then s (o + 3) else s (o + 3) + 1 := by
  unfold sK5 smS
  by_cases h1 : s (p + 2) = 100 <;> by_cases h2 : s (q + 2) = 100
  all_goals
    simp only [h1, h2, if_true, if_false, iff_true, iff_false, not_true_eq_false, not_false_eq_true, iff_self]
    try simp (disch := omega) only [up_n, up_s]
theorem k7_off {A B : Int32} {x : Nat} (h1 : x ≠ p + 6) (h2 : x ≠ q + 6) : sK7 s A B p q x = s x := by
  unfold sK7
  rw [up_n _ _ h2, up_n _ _ h1]
theorem k7_p6 {A B : Int32} (h : p + 6 ≠ q + 6) : sK7 s A B p q (p + 6) = if ¬ A = 100 ∧ s (p + 3) = 20 then 1 else s (p + 6) := by
  unfold sK7
  rw [up_n _ _ h, up_s]
theorem k7_q6 {A B : Int32} : sK7 s A B p q (q + 6) = if ¬ B = 100 ∧ s (q + 3) = 20 then 1 else s (q + 6) := by
  unfold sK7
  rw [up_s]
end K5
theorem rsf {o : Nat} (h : RS T (TM 1) o n) (f : Nat) (hf : f < 8) {c : Nat} (hc : c < n) : TM 1 (o + 16 + 8 * c + f) = T (3 + f) c := h.2.2.2.2.2 c hc f hf
/-- the row ahead of the smashes -/
def sK3 (s : Nat → Int32) (o p q : Nat) (A B WA WB : Int32) : Nat → Int32 := upd (upd (upd (upd (upd s (q + 2) B) (p + 2) A) (p + 3) WA) (q + 3) WB) (o + 2) (s (o + 2) + 1)
theorem s_strikes1 {o : Nat} (h : Iv T n) (hR : RS T (TM 1) o n) (ho : o + 256 ≤ 2048) {a b : Nat} (ha : a < n) (hb : b < n) (hab : a ≠ b) (w : Int32) :
    m_X6_strikes (nI o) (nI a) (nI b) w TM = m_X6_strikes_200 (nI o) (nI a) (nI b) (nI (o + 16 + 8 * a)) (nI (o + 16 + 8 * b)) (if sK3 (TM 1) o (o + 16 + 8 * a) (o + 16 + 8 * b) (hca T a b w) (hcb T a b w) (hwa T a w) (hwb T b) (o + 16 + 8 * a + 2) = 100 then 1 else 0) (sS TM (sK3 (TM 1) o (o + 16 + 8 * a) (o + 16 + 8 * b) (hca T a b w) (hcb T a b w) (hwa T a w) (hwb T b))) := by
  have hn := iv_n h
  obtain ⟨ja, ja1, ja2, eja⟩ := iv_hard h a ha
  obtain ⟨jb, jb1, jb2, ejb⟩ := iv_hard h b hb
  have hba : b ≠ a := fun e => hab e.symm
  have e2 : (2 : Int32) * nI ja = nI (2 * ja) := pk_mul 2 ja
  have a1 := rsf hR 1 (by decide) ha
  have a2 := rsf hR 2 (by decide) ha
  have a3 := rsf hR 3 (by decide) ha
  have b1 := rsf hR 1 (by decide) hb
  have b2 := rsf hR 2 (by decide) hb
  have b3 := rsf hR 3 (by decide) hb
  have n1 : o + 16 + 8 * a + 2 ≠ o + 16 + 8 * b + 2 := by omega
  have n2 : o + 16 + 8 * b + 1 ≠ o + 16 + 8 * b + 2 := by omega
  have n3 : o + 16 + 8 * a + 1 ≠ o + 16 + 8 * b + 2 := by omega
  unfold m_X6_strikes
  rw [s_at, bnd_s, s_at, bnd_s]
  simp only [nI_p1, nI_p2, nI_p3]
  rw [ib_nI (show o + 16 + 8 * a + 1 < 2048 by omega) (by decide), ib_nI (show o + 16 + 8 * a + 2 < 2048 by omega) (by decide), ib_nI (show o + 16 + 8 * a + 3 < 2048 by omega) (by decide), ib_nI (show o + 16 + 8 * b + 1 < 2048 by omega) (by decide), ib_nI (show o + 16 + 8 * b + 2 < 2048 by omega) (by decide),
    cl_nI (show o + 16 + 8 * a + 1 < 2 ^ 31 by omega), cl_nI (show o + 16 + 8 * a + 2 < 2 ^ 31 by omega), cl_nI (show o + 16 + 8 * a + 3 < 2 ^ 31 by omega), cl_nI (show o + 16 + 8 * b + 1 < 2 ^ 31 by omega), cl_nI (show o + 16 + 8 * b + 2 < 2 ^ 31 by omega)]
  simp only [gd_t]
  have g1 : (!decide (nI jb = 0)) = true := by simp [nI_ne0 (show 0 < jb by omega) (show jb < 2 ^ 31 by omega)]
  have g2 : (!decide (nI (2 * ja) = 0)) = true := by simp [nI_ne0 (show 0 < 2 * ja by omega) (show 2 * ja < 2 ^ 31 by omega)]
  rw [nm_u, nm_u, nm_u, b2, a1, b1]
  have eja' : T (3 + 1) a = nI ja := eja
  have ejb' : T (3 + 1) b = nI jb := ejb
  rw [eja', ejb', g1, gd_t, s_less, bnd_s, nm_u, sS_w0, nm_u, sS_1, up_n _ _ n1, a2, nm_u, up_n _ _ n2, b1, nm_u, up_n _ _ n3, a1, eja', ejb', e2, g2, gd_t, s_less, bnd_s, nm_u, sS_w, nm_u, sS_1]
  have n4 : o + 16 + 8 * a + 3 ≠ o + 16 + 8 * a + 2 := by omega
  have n5 : o + 16 + 8 * a + 3 ≠ o + 16 + 8 * b + 2 := by omega
  rw [up_n _ _ n4, up_n _ _ n5, a3]
  have eca : mn (T (3 + 2) a + w * nI jb / nI (2 * ja)) 100 = hca T a b w := by unfold hca; rw [eja, ejb, e2]
  have ecb : mn (T (3 + 2) b + w * nI ja / nI jb) 100 = hcb T a b w := by unfold hcb; rw [eja, ejb]
  rw [eca, ecb]
  have key : ∀ d : Int32, mn (T (3 + 3) a + d) 20 = hwa T a w → m_X6_strikes_137 (nI o) (nI a) (nI b) (nI (o + 16 + 8 * a)) (nI (o + 16 + 8 * b)) (nI (o + 16 + 8 * a + 3)) (T (3 + 3) a) d (sS TM (upd (upd (TM 1) (o + 16 + 8 * b + 2) (hcb T a b w)) (o + 16 + 8 * a + 2) (hca T a b w))) = m_X6_strikes_200 (nI o) (nI a) (nI b) (nI (o + 16 + 8 * a)) (nI (o + 16 + 8 * b)) (if sK3 (TM 1) o (o + 16 + 8 * a) (o + 16 + 8 * b) (hca T a b w) (hcb T a b w) (hwa T a w) (hwb T b) (o + 16 + 8 * a + 2) = 100 then 1 else 0) (sS TM (sK3 (TM 1) o (o + 16 + 8 * a) (o + 16 + 8 * b) (hca T a b w) (hcb T a b w) (hwa T a w) (hwb T b))) := by
    intro d hd
    unfold m_X6_strikes_137
    simp only [nI_p1, nI_p2, nI_p3]
    rw [s_less, bnd_s, hd, ib_nI (show o + 16 + 8 * a + 3 < 2048 by omega) (by decide), ib_nI (show o + 16 + 8 * a + 2 < 2048 by omega) (by decide), ib_nI (show o + 16 + 8 * b + 3 < 2048 by omega) (by decide), ib_nI (show o + 2 < 2048 by omega) (by decide),
      cl_nI (show o + 16 + 8 * a + 3 < 2 ^ 31 by omega), cl_nI (show o + 16 + 8 * a + 2 < 2 ^ 31 by omega), cl_nI (show o + 16 + 8 * b + 3 < 2 ^ 31 by omega), cl_nI (show o + 2 < 2 ^ 31 by omega)]
    simp only [gd_t]
    have m1 : o + 16 + 8 * b + 3 ≠ o + 16 + 8 * a + 3 := by omega
    have m2 : o + 16 + 8 * b + 3 ≠ o + 16 + 8 * a + 2 := by omega
    have m3 : o + 16 + 8 * b + 3 ≠ o + 16 + 8 * b + 2 := by omega
    have m4 : o + 2 ≠ o + 16 + 8 * b + 3 := by omega
    have m5 : o + 2 ≠ o + 16 + 8 * a + 3 := by omega
    have m6 : o + 2 ≠ o + 16 + 8 * a + 2 := by omega
    have m7 : o + 2 ≠ o + 16 + 8 * b + 2 := by omega
    rw [nm_u, sS_w, nm_u, sS_1, up_n _ _ m1, up_n _ _ m2, up_n _ _ m3, b3, s_less, bnd_s, nm_u, sS_w, nm_u, sS_1, up_n _ _ m4, up_n _ _ m5, up_n _ _ m6, up_n _ _ m7, nm_u, sS_w, nm_u, sS_1]
    have ewb : mn (T (3 + 3) b + 1) 20 = hwb T b := rfl
    rw [ewb]
    show (if sK3 (TM 1) o (o + 16 + 8 * a) (o + 16 + 8 * b) (hca T a b w) (hcb T a b w) (hwa T a w) (hwb T b) (o + 16 + 8 * a + 2) = 100 then _ else _) = _
    split
    · rfl
    · rfl
  by_cases hw : w ≤ 6
  · rw [if_pos hw]
    exact key 1 (by unfold hwa; rw [if_pos hw])
  · rw [if_neg hw]
    exact key 2 (by unfold hwa; rw [if_neg hw])
/-- what both say behind a strike -/
def sK (T : Tm) (s : Nat → Int32) (o a b : Nat) (w : Int32) : Nat → Int32 :=
  sK7 (sK5 (sK3 s o (o + 16 + 8 * a) (o + 16 + 8 * b) (hca T a b w) (hcb T a b w) (hwa T a w) (hwb T b)) o (o + 16 + 8 * a) (o + 16 + 8 * b) a b) (hca T a b w) (hcb T a b w) (o + 16 + 8 * a) (o + 16 + 8 * b)
theorem k3_p2 {s : Nat → Int32} {o p q : Nat} {A B WA WB : Int32} (ho : o + 16 ≤ p) (ho2 : o + 16 ≤ q) (hpq : p + 8 ≤ q ∨ q + 8 ≤ p) : sK3 s o p q A B WA WB (p + 2) = A := by
  unfold sK3; simp (disch := omega) only [up_n, up_s]
theorem k3_q2 {s : Nat → Int32} {o p q : Nat} {A B WA WB : Int32} (ho : o + 16 ≤ p) (ho2 : o + 16 ≤ q) (hpq : p + 8 ≤ q ∨ q + 8 ≤ p) : sK3 s o p q A B WA WB (q + 2) = B := by
  unfold sK3; simp (disch := omega) only [up_n, up_s]
theorem k3_p3 {s : Nat → Int32} {o p q : Nat} {A B WA WB : Int32} (ho : o + 16 ≤ p) (ho2 : o + 16 ≤ q) (hpq : p + 8 ≤ q ∨ q + 8 ≤ p) : sK3 s o p q A B WA WB (p + 3) = WA := by
  unfold sK3; simp (disch := omega) only [up_n, up_s]
theorem k3_q3 {s : Nat → Int32} {o p q : Nat} {A B WA WB : Int32} (ho : o + 16 ≤ p) (ho2 : o + 16 ≤ q) (hpq : p + 8 ≤ q ∨ q + 8 ≤ p) : sK3 s o p q A B WA WB (q + 3) = WB := by
  unfold sK3; simp (disch := omega) only [up_n, up_s]
theorem k3_o2 {s : Nat → Int32} {o p q : Nat} {A B WA WB : Int32} : sK3 s o p q A B WA WB (o + 2) = s (o + 2) + 1 := by
  unfold sK3; rw [up_s]
theorem k3_off {s : Nat → Int32} {o p q : Nat} {A B WA WB : Int32} {x : Nat} (h1 : x ≠ o + 2) (h2 : x ≠ p + 2) (h3 : x ≠ p + 3) (h4 : x ≠ q + 2) (h5 : x ≠ q + 3) : sK3 s o p q A B WA WB x = s x := by
  unfold sK3; simp (disch := omega) only [up_n]
theorem s_strikes {o : Nat} (h : Iv T n) (hR : RS T (TM 1) o n) (ho : o + 256 ≤ 2048) {a b : Nat} (ha : a < n) (hb : b < n) (hab : a ≠ b) (w : Int32) :
    m_X6_strikes (nI o) (nI a) (nI b) w TM = some (hitR T a b w, sS TM (sK T (TM 1) o a b w)) := by
  have hn := iv_n h
  have hpq : o + 16 + 8 * a + 8 ≤ o + 16 + 8 * b ∨ o + 16 + 8 * b + 8 ≤ o + 16 + 8 * a := by omega
  rw [s_strikes1 h hR ho ha hb hab w, s_200 (a := a) (b := b) _ (show o + 16 ≤ o + 16 + 8 * a by omega) (show o + 16 ≤ o + 16 + 8 * b by omega) (by omega) (by omega) hpq]
  rw [k5_off hpq (by omega) (by omega) (by omega) (by omega), k5_off hpq (by omega) (by omega) (by omega) (by omega)]
  rw [k3_p2 (by omega) (by omega) hpq, k3_q2 (by omega) (by omega) hpq, k3_p3 (by omega) (by omega) hpq, k3_q3 (by omega) (by omega) hpq]
  rfl
end STK
