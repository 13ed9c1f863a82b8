/-! A STRIKE on both sides -/
def hcb (T : Tm) (a b : Nat) (w : Int32) : Int32 := mn (T 5 b + w * T 4 a / T 4 b) 100
def hca (T : Tm) (a b : Nat) (w : Int32) : Int32 := mn (T 5 a + w * T 4 b / (2 * T 4 a)) 100
def hwa (T : Tm) (a : Nat) (w : Int32) : Int32 := mn (T 6 a + (if w ≤ 6 then 1 else 2)) 20
def hwb (T : Tm) (b : Nat) : Int32 := mn (T 6 b + 1) 20
/-- the state behind a strike of a on b -/
def hitT (T : Tm) (a b : Nat) (w : Int32) : Tm := fun q c =>
  if q = 0 then (if c = 12 then T 0 12 + 1 else if c = 11 then (if hca T a b w = 100 ∧ hcb T a b w = 100 then T 0 11 + T 7 a + T 7 b else T 0 11) else T 0 c)
  else if q = 5 then (if c = a then hca T a b w else if c = b then hcb T a b w else T 5 c)
  else if q = 6 then (if c = a then hwa T a w else if c = b then hwb T b else T 6 c)
  else if q = 7 then (if c = a then (if hca T a b w = 100 then 0 else if hcb T a b w = 100 then T 7 a + (1 + T 7 b) else T 7 a) else if c = b then (if hcb T a b w = 100 then 0 else if hca T a b w = 100 then T 7 b + (1 + T 7 a) else T 7 b) else T 7 c)
  else if q = 8 then (if c = a then (if hca T a b w = 100 then (-5) else T 8 a) else if c = b then (if hcb T a b w = 100 then (-5) else T 8 b) else T 8 c)
  else if q = 9 then (if c = a then (if hca T a b w = 100 then 2 else if hwa T a w = 20 then 1 else 0) else if c = b then (if hcb T a b w = 100 then 2 else if hwb T b = 20 then 1 else 0) else T 9 c)
  else if q = 10 then (if c = a then (if hca T a b w = 100 ∧ ¬ hcb T a b w = 100 then nI b else T 10 a) else if c = b then (if hcb T a b w = 100 ∧ ¬ hca T a b w = 100 then nI a else T 10 b) else T 10 c)
  else T q c
def hitR (T : Tm) (a b : Nat) (w : Int32) : Int32 := (if hca T a b w = 100 then 1 else if hwa T a w = 20 then 4 else 0) + (if hcb T a b w = 100 then 2 else if hwb T b = 20 then 8 else 0)
section HIT
variable {T : Tm} {n : Nat}
theorem s_quotient (x : Int32) {d : Nat} (h1 : 1 ≤ d) (h2 : d < 2 ^ 31) (M : Mm) : m_X4_quotient x (nI d) M = some (x / nI d, M) := by
  unfold m_X4_quotient
  have e : (1 : Int32) ≤ nI d := nI_le (a := 1) h1 h2
  have e2 : ¬ nI d = 0 := nI_ne0 (by omega) h2
  rw [if_pos e]
  simp [e2, gd_t]
theorem s_take {a : Nat} (ha : a < 30) : m_X4_takeVictoriesOfSmashed (nI a) T = some (T 7 a, wT (wT (wT T 7 a 0) 8 a (-5)) 9 a 2) := by
  unfold m_X4_takeVictoriesOfSmashed
  simp (disch := omega) only [ib_nI, gd_t, nm_u, cl_nI]
theorem s_crush {a : Nat} (ha : a < 30) : m_X4_crush (nI a) T = some (T 7 a, wT (wT (wT (wT T 7 a 0) 8 a (-5)) 9 a 2) 0 11 (T 0 11 + T 7 a)) := by
  unfold m_X4_crush
  simp (disch := omega) only [s_take ha, bnd_s, nm_u, wT_n]
theorem s_inherit {a b : Nat} (ha : a < 30) (hb : b < 30) : m_X4_inherit (nI a) (nI b) T = some (0, wT (wT (wT (wT (wT T 7 b 0) 8 b (-5)) 9 b 2) 7 a (T 7 a + (1 + T 7 b))) 10 b (nI a)) := by
  unfold m_X4_inherit
  simp (disch := omega) only [ib_nI, gd_t, nm_u, cl_nI, s_take hb, bnd_s]
/-- who is smashed, and what becomes of the victories -/
def stT (T : Tm) (a b : Nat) : Tm := fun q c =>
  if q = 0 then (if c = 11 ∧ T 5 a = 100 ∧ T 5 b = 100 then T 0 11 + T 7 a + T 7 b else T 0 c)
  else if q = 7 then (if c = a then (if T 5 a = 100 then 0 else if T 5 b = 100 then T 7 a + (1 + T 7 b) else T 7 a) else if c = b then (if T 5 b = 100 then 0 else if T 5 a = 100 then T 7 b + (1 + T 7 a) else T 7 b) else T 7 c)
  else if q = 8 then (if c = a ∧ T 5 a = 100 ∨ c = b ∧ T 5 b = 100 then (-5) else T 8 c)
  else if q = 9 then (if c = a ∧ T 5 a = 100 ∨ c = b ∧ T 5 b = 100 then 2 else T 9 c)
  else if q = 10 then (if c = a ∧ T 5 a = 100 ∧ ¬ T 5 b = 100 then nI b else if c = b ∧ T 5 b = 100 ∧ ¬ T 5 a = 100 then nI a else T 10 c)
  else T q c
theorem q_cases (q : Nat) : q = 0 ∨ q = 7 ∨ q = 8 ∨ q = 9 ∨ q = 10 ∨ (q ≠ 0 ∧ q ≠ 7 ∧ q ≠ 8 ∧ q ≠ 9 ∧ q ≠ 10) := by omega
set_option maxHeartbeats 4000000 in
theorem s_settle {a b : Nat} (ha : a < 30) (hb : b < 30) (hab : a ≠ b) : m_X4_settleSmashes (nI a) (nI b) T = some (0, stT T a b) := by
  have hba : b ≠ a := fun e => hab e.symm
  unfold m_X4_settleSmashes
  by_cases h1 : T 5 a = 100
  · by_cases h2 : T 5 b = 100
    · simp (disch := omega) only [ib_nI, gd_t, nm_u, cl_nI, h1, if_true, m_X4_settleSmashes_16, h2, m_X4_settleSmashes_33]
      rw [if_neg (by decide), if_neg (by decide), s_crush ha, bnd_s, s_crush hb, bnd_s]
      simp (disch := omega) only [wT_ss, wT_sn, wT_n]
      refine congrArg (fun z => some (0, z)) ?_
      funext q c
      rcases q_cases q with rfl | rfl | rfl | rfl | rfl | ⟨q0, q7, q8, q9, q10⟩
      · by_cases hc : c = 11
        · subst hc; simp [stT, wT_get, h1, h2]
        · simp [stT, wT_get, h1, h2, hc]
      · by_cases hca : c = a
        · subst hca; simp [stT, wT_get, h1, h2, hab, hba]
        · by_cases hcb : c = b
          · subst hcb; simp [stT, wT_get, h1, h2, hab, hba]
          · simp [stT, wT_get, h1, h2, hca, hcb]
      · by_cases hca : c = a
        · subst hca; simp [stT, wT_get, h1, h2, hab, hba]
        · by_cases hcb : c = b
          · subst hcb; simp [stT, wT_get, h1, h2, hab, hba]
          · simp [stT, wT_get, h1, h2, hca, hcb]
      · by_cases hca : c = a
        · subst hca; simp [stT, wT_get, h1, h2, hab, hba]
        · by_cases hcb : c = b
          · subst hcb; simp [stT, wT_get, h1, h2, hab, hba]
          · simp [stT, wT_get, h1, h2, hca, hcb]
      · simp [stT, wT_get, h1, h2]
      · simp [stT, wT_get, q0, q7, q8, q9, q10]
    · simp (disch := omega) only [ib_nI, gd_t, nm_u, cl_nI, h1, if_true, m_X4_settleSmashes_16, h2, if_false, m_X4_settleSmashes_33, m_X4_settleSmashes_59]
      rw [if_neg (by decide), if_neg (by decide), s_inherit hb ha, bnd_s]
      refine congrArg (fun z => some (0, z)) ?_
      funext q c
      rcases q_cases q with rfl | rfl | rfl | rfl | rfl | ⟨q0, q7, q8, q9, q10⟩
      · simp [stT, wT_get, h1, h2]
      · by_cases hca : c = a
        · subst hca; simp [stT, wT_get, h1, h2, hab, hba]
        · by_cases hcb : c = b
          · subst hcb; simp [stT, wT_get, h1, h2, hab, hba]
          · simp [stT, wT_get, h1, h2, hca, hcb]
      · simp [stT, wT_get, h1, h2]
      · simp [stT, wT_get, h1, h2]
      · simp [stT, wT_get, h1, h2]
      · simp [stT, wT_get, q0, q7, q8, q9, q10]
  · by_cases h2 : T 5 b = 100
    · simp (disch := omega) only [ib_nI, gd_t, nm_u, cl_nI, h1, if_false, if_true, m_X4_settleSmashes_16, h2, m_X4_settleSmashes_33, m_X4_settleSmashes_59]
      rw [if_neg (by decide), s_inherit ha hb, bnd_s]
      refine congrArg (fun z => some (0, z)) ?_
      funext q c
      rcases q_cases q with rfl | rfl | rfl | rfl | rfl | ⟨q0, q7, q8, q9, q10⟩
      · simp [stT, wT_get, h1, h2]
      · by_cases hca : c = a
        · subst hca; simp [stT, wT_get, h1, h2, hab, hba]
        · by_cases hcb : c = b
          · subst hcb; simp [stT, wT_get, h1, h2, hab, hba]
          · simp [stT, wT_get, h1, h2, hca, hcb]
      · simp [stT, wT_get, h1, h2]
      · simp [stT, wT_get, h1, h2]
      · simp [stT, wT_get, h1, h2]
      · simp [stT, wT_get, q0, q7, q8, q9, q10]
    · simp (disch := omega) only [ib_nI, gd_t, nm_u, cl_nI, h1, if_false, if_true, m_X4_settleSmashes_16, h2, m_X4_settleSmashes_33, m_X4_settleSmashes_59]
      refine congrArg (fun z => some (0, z)) ?_
      funext q c
      rcases q_cases q with rfl | rfl | rfl | rfl | rfl | ⟨q0, q7, q8, q9, q10⟩
      · simp [stT, h1, h2]
      · by_cases hca : c = a
        · subst hca; simp [stT, h1, h2]
        · by_cases hcb : c = b
          · subst hcb; simp [stT, h1, h2, hba]
          · simp [stT, hca, hcb]
      · simp [stT, h1, h2]
      · simp [stT, h1, h2]
      · simp [stT, h1, h2]
      · simp [stT, q0, q7, q8, q9, q10]
def flT (T : Tm) (a : Nat) : Tm := fun q c => if q = 9 ∧ c = a ∧ T 9 a = 0 ∧ T 6 a = 20 then 1 else T q c
theorem s_fall {a : Nat} (ha : a < 30) : m_X4_fallIfWorn (nI a) T = some (0, flT T a) := by
  unfold m_X4_fallIfWorn
  simp (disch := omega) only [ib_nI, gd_t, nm_u, cl_nI]
  by_cases h1 : T 9 a = 0
  · by_cases h2 : T 6 a = 20
    · rw [if_pos h1, if_pos h2]
      refine congrArg (fun z => some (0, z)) ?_
      funext q c
      rw [wT_get]
      unfold flT
      by_cases hq : q = 9
      · by_cases hc : c = a
        · simp [hq, hc, h1, h2]
        · simp [hq, hc]
      · simp [hq]
    · rw [if_pos h1, if_neg h2]
      refine congrArg (fun z => some (0, z)) ?_
      funext q c
      simp [flT, h2]
  · rw [if_neg h1]
    refine congrArg (fun z => some (0, z)) ?_
    funext q c
    simp [flT, h1]
theorem s_outcome {a : Nat} (ha : a < 30) (x y : Int32) : m_X4_outcome (nI a) x y T = some (if T 9 a = 2 then x else if T 9 a = 1 then y else 0, T) := by
  unfold m_X4_outcome
  simp (disch := omega) only [ib_nI, gd_t, nm_u, cl_nI]
  by_cases h1 : T 9 a = 2
  · simp [h1]
  · by_cases h2 : T 9 a = 1
    · simp [h2]
    · simp [h1, h2]
/-- the cells ahead of the smashes -/
def prT (T : Tm) (a b : Nat) (w : Int32) : Tm := wT (wT (wT (wT (wT T 0 12 (T 0 12 + 1)) 5 b (hcb T a b w)) 5 a (hca T a b w)) 6 a (hwa T a w)) 6 b (hwb T b)
theorem s_hit1 (h : Iv T n) {a b : Nat} (ha : a < n) (hb : b < n) (hab : a ≠ b) (w : Int32) : m_X4_hit (nI a) (nI b) w T = m_X4_hit_112 (nI a) (nI b) (nI a) (T 6 a) (if w ≤ 6 then 1 else 2) (wT (wT (wT T 0 12 (T 0 12 + 1)) 5 b (hcb T a b w)) 5 a (hca T a b w)) := by
  have hn := iv_n h
  obtain ⟨ja, ja1, ja2, eja⟩ := iv_hard h a ha
  obtain ⟨jb, jb1, jb2, ejb⟩ := iv_hard h b hb
  have hba : b ≠ a := fun e => hab e.symm
  have e2 : (2 : Int32) * nI ja = nI (2 * ja) := pk_mul 2 ja
  unfold m_X4_hit hcb hca
  rw [ib_nI (show a < 30 by omega) (by decide), ib_nI (show b < 30 by omega) (by decide), cl_nI (show a < 2 ^ 31 by omega), cl_nI (show b < 2 ^ 31 by omega)]
  simp only [gd_t]
  rw [nm_u, nm_u, eja, ejb, s_quotient _ jb1 (by omega), bnd_s, nm_u, nm_u, e2, s_quotient _ (by omega) (by omega), bnd_s, nm_u, nm_u, nm_u, nm_u, nm_u, nm_u, nm_u, nm_u, nm_u]
  simp (disch := omega) only [wT_ss, wT_sn, wT_n]
  by_cases hw : w ≤ 6
  · rw [if_pos hw, if_pos hw]
  · rw [if_neg hw, if_neg hw]
theorem s_hit2 {a b : Nat} (ha : a < 30) (hb : b < 30) (hab : a ≠ b) (x y : Int32) : m_X4_hit_112 (nI a) (nI b) (nI a) x y T = (let U := flT (flT (stT (wT (wT T 6 a (mn (x + y) 20)) 6 b (mn (T 6 b + 1) 20)) a b) a) b
    some ((if U 9 a = 2 then 1 else if U 9 a = 1 then 4 else 0) + (if U 9 b = 2 then 2 else if U 9 b = 1 then 8 else 0), U)) := by
  have hba : b ≠ a := fun e => hab e.symm
  unfold m_X4_hit_112
  rw [ib_nI (show a < 30 by omega) (by decide), ib_nI (show b < 30 by omega) (by decide), cl_nI (show a < 2 ^ 31 by omega), cl_nI (show b < 2 ^ 31 by omega)]
  simp only [gd_t]
  rw [nm_u, nm_u, nm_u, nm_u, nm_u, wT_sn _ _ _ hba, s_settle ha hb hab, bnd_s, s_fall ha, bnd_s, s_fall hb, bnd_s, s_outcome ha, bnd_s, s_outcome hb, bnd_s]
set_option maxHeartbeats 4000000 in
theorem hit_fun {a b : Nat} (hab : a ≠ b) (h9a : T 9 a = 0) (h9b : T 9 b = 0) (w : Int32) : flT (flT (stT (prT T a b w) a b) a) b = hitT T a b w := by
  have hba : b ≠ a := fun e => hab e.symm
  have p5a : prT T a b w 5 a = hca T a b w := by unfold prT; simp (disch := omega) only [wT_ss, wT_sn, wT_n]
  have p5b : prT T a b w 5 b = hcb T a b w := by unfold prT; simp (disch := omega) only [wT_ss, wT_sn, wT_n]
  have p6a : prT T a b w 6 a = hwa T a w := by unfold prT; simp (disch := omega) only [wT_ss, wT_sn, wT_n]
  have p6b : prT T a b w 6 b = hwb T b := by unfold prT; simp (disch := omega) only [wT_ss, wT_sn, wT_n]
  have p7 : ∀ c, prT T a b w 7 c = T 7 c := fun c => by unfold prT; simp (disch := omega) only [wT_n]
  have p8 : ∀ c, prT T a b w 8 c = T 8 c := fun c => by unfold prT; simp (disch := omega) only [wT_n]
  have p9 : ∀ c, prT T a b w 9 c = T 9 c := fun c => by unfold prT; simp (disch := omega) only [wT_n]
  have p10 : ∀ c, prT T a b w 10 c = T 10 c := fun c => by unfold prT; simp (disch := omega) only [wT_n]
  have p0 : ∀ c, prT T a b w 0 c = if c = 12 then T 0 12 + 1 else T 0 c := fun c => by
    unfold prT
    simp (disch := omega) only [wT_n]
    rw [wT_get, if_pos rfl]
  have p5 : ∀ c, c ≠ a → c ≠ b → prT T a b w 5 c = T 5 c := fun c h1 h2 => by unfold prT; simp (disch := omega) only [wT_sn, wT_n]
  have p6 : ∀ c, c ≠ a → c ≠ b → prT T a b w 6 c = T 6 c := fun c h1 h2 => by unfold prT; simp (disch := omega) only [wT_sn, wT_n]
  have pq : ∀ q c, q ≠ 0 → q ≠ 5 → q ≠ 6 → prT T a b w q c = T q c := fun q c h1 h2 h3 => by unfold prT; simp (disch := omega) only [wT_n]
  generalize prT T a b w = P at *
  unfold hitT
  generalize hca T a b w = A at *
  generalize hcb T a b w = B at *
  generalize hwa T a w = WA at *
  generalize hwb T b = WB at *
  funext q c
  rcases q_cases q with rfl | rfl | rfl | rfl | rfl | ⟨q0, q7, q8, q9, q10⟩
  · by_cases hc : c = 12
    · subst hc; simp [flT, stT, p0]
    · by_cases hc2 : c = 11
      · subst hc2
        by_cases hA : A = 100 <;> by_cases hB : B = 100 <;> simp [flT, stT, p0, p5a, p5b, p7, hA, hB]
      · simp [flT, stT, p0, hc, hc2]
  · by_cases hca : c = a
    · subst hca
      simp [flT, stT, p5a, p5b, p7]
    · by_cases hcb : c = b
      · subst hcb
        simp [flT, stT, p5a, p5b, p7, hba]
      · simp [flT, stT, p7, hca, hcb]
  · by_cases hca : c = a
    · subst hca
      by_cases hA : A = 100 <;> simp [flT, stT, p5a, p5b, p8, hA, hab]
    · by_cases hcb : c = b
      · subst hcb
        by_cases hB : B = 100 <;> simp [flT, stT, p5a, p5b, p8, hB, hba]
      · simp [flT, stT, p8, hca, hcb]
  · by_cases hca : c = a
    · subst hca
      by_cases hA : A = 100 <;> by_cases hW : WA = 20 <;> simp [flT, stT, p5a, p5b, p6a, p6b, p9, hA, hW, hab, hba, h9a, h9b]
    · by_cases hcb : c = b
      · subst hcb
        by_cases hB : B = 100 <;> by_cases hW : WB = 20 <;> simp [flT, stT, p5a, p5b, p6a, p6b, p9, hB, hW, hab, hba, h9a, h9b]
      · simp [flT, stT, p9, hca, hcb]
  · by_cases hca : c = a
    · subst hca
      by_cases hA : A = 100 <;> by_cases hB : B = 100 <;> simp [flT, stT, p5a, p5b, p10, hA, hB, hab]
    · by_cases hcb : c = b
      · subst hcb
        by_cases hA : A = 100 <;> by_cases hB : B = 100 <;> simp [flT, stT, p5a, p5b, p10, hA, hB, hba]
      · simp [flT, stT, p10, hca, hcb]
  · by_cases q5 : q = 5
    · subst q5
      by_cases hca : c = a
      · subst hca; simp [flT, stT, p5a]
      · by_cases hcb : c = b
        · subst hcb; simp [flT, stT, p5b, hba]
        · simp [flT, stT, p5 c hca hcb, hca, hcb]
    · by_cases q6 : q = 6
      · subst q6
        by_cases hca : c = a
        · subst hca; simp [flT, stT, p6a]
        · by_cases hcb : c = b
          · subst hcb; simp [flT, stT, p6b, hba]
          · simp [flT, stT, p6 c hca hcb, hca, hcb]
      · simp [flT, stT, pq q c q0 q5 q6, q0, q5, q6, q7, q8, q9, q10]
theorem s_hit (h : Iv T n) {a b : Nat} (ha : a < n) (hb : b < n) (hab : a ≠ b) (h9a : T 9 a = 0) (h9b : T 9 b = 0) (w : Int32) : m_X4_hit (nI a) (nI b) w T = some (hitR T a b w, hitT T a b w) := by
  have hn := iv_n h
  have hba : b ≠ a := fun e => hab e.symm
  rw [s_hit1 h ha hb hab, s_hit2 (by omega) (by omega) hab]
  have e1 : (wT (wT (wT T 0 12 (T 0 12 + 1)) 5 b (hcb T a b w)) 5 a (hca T a b w)) 6 b = T 6 b := by simp (disch := omega) only [wT_n]
  have e2 : mn (T 6 a + (if w ≤ 6 then 1 else 2)) 20 = hwa T a w := rfl
  rw [e1, e2]
  show (let U := flT (flT (stT (prT T a b w) a b) a) b
    some ((if U 9 a = 2 then 1 else if U 9 a = 1 then 4 else 0) + (if U 9 b = 2 then 2 else if U 9 b = 1 then 8 else 0), U)) = _
  rw [hit_fun hab h9a h9b]
  refine congrArg (fun z => some (z, hitT T a b w)) ?_
  unfold hitR
  have e3 : hitT T a b w 9 a = (if hca T a b w = 100 then 2 else if hwa T a w = 20 then 1 else 0) := by simp [hitT]
  have e4 : hitT T a b w 9 b = (if hcb T a b w = 100 then 2 else if hwb T b = 20 then 1 else 0) := by simp [hitT, hba]
  rw [e3, e4]
  by_cases hA : hca T a b w = 100 <;> by_cases hB : hcb T a b w = 100 <;> by_cases hWA : hwa T a w = 20 <;> by_cases hWB : hwb T b = 20 <;> simp [hA, hB, hWA, hWB]
end HIT

