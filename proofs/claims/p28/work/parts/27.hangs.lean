/-! hangs -/
section HANGS
variable {T : Tm} {n s : Nat}
def pOw (T : Tm) (p : Nat) : Nat → Bool := fun c => decide (T 3 c = nI p)
/-- victories of one player -/
def vpl (T : Tm) (v : Nat → Nat) (n p : Nat) : Nat := sm (fun c => if T 3 c = nI p then v c else 0) n
theorem bx_pl (T : Tm) {v : Nat → Nat} (p : Nat) : ∀ i, (∀ c, c < i → T 7 c = nI (v c)) → bx_sum (vf T false (nI p)) i = nI (vpl T v i p) := by
  intro i
  induction i with
  | zero => intro _; rfl
  | succ i ih =>
    intro h
    unfold vpl at ih ⊢
    rw [bx_sum, ih (fun c hc => h c (by omega)), sm, vf]
    by_cases q : T 3 i = nI p
    · simp [ofP, q, h i (by omega)]
      exact nI_add _ _
    · simp [ofP, q]
theorem vpl_all (h : Iv T n) (v : Nat → Nat) : sm (vpl T v n) 6 = sm v n := by
  unfold vpl
  rw [sm_swap]
  refine sm_congr (fun c hc => ?_)
  obtain ⟨p, hp, e⟩ := iv_own h c hc
  rw [sm_single hp (fun i hi hne => by
    have : ¬ nI p = nI i := fun q => hne (nI_inj (by omega) (by omega) q).symm
    simp [e, this])]
  simp [e]
theorem own_all (hE : Ev T n) (p : Nat) : ∀ i, i ≤ n → cnt (pBe T 0 false (nI p)) i + cnt (pBe T 1 false (nI p)) i + cnt (pBe T 2 false (nI p)) i = cnt (pOw T p) i := by
  intro i
  induction i with
  | zero => intro _; rfl
  | succ i ih =>
    intro hi
    have := ih (by omega)
    obtain ⟨⟨w, w1, ew⟩, -⟩ := hE i (by omega)
    have hw : w = 0 ∨ w = 1 ∨ w = 2 := by omega
    rw [cnt, cnt, cnt, cnt]
    by_cases q : T 3 i = nI p
    · rcases hw with rfl | rfl | rfl
      · have e : T 9 i = 0 := ew
        simp [pBe, ofP, pOw, q, e]; omega
      · have e : T 9 i = 1 := ew
        simp [pBe, ofP, pOw, q, e]; omega
      · have e : T 9 i = 2 := ew
        simp [pBe, ofP, pOw, q, e]; omega
    · simp [pBe, ofP, pOw, q]; omega
theorem alive_all (hE : Ev T n) : ∀ i, i ≤ n → cnt (pBe T 0 true (-1)) i + cnt (pBe T 1 true (-1)) i = cnt (liv T) i := by
  intro i
  induction i with
  | zero => intro _; rfl
  | succ i ih =>
    intro hi
    have := ih (by omega)
    obtain ⟨⟨w, w1, ew⟩, -⟩ := hE i (by omega)
    have hw : w = 0 ∨ w = 1 ∨ w = 2 := by omega
    rw [cnt, cnt, cnt]
    rcases hw with rfl | rfl | rfl
    · have e : T 9 i = 0 := ew
      simp [pBe, ofP, liv, e]; omega
    · have e : T 9 i = 1 := ew
      simp [pBe, ofP, liv, e]; omega
    · have e : T 9 i = 2 := ew
      simp [pBe, ofP, liv, e]; omega
/-- the conker that is sent is the best in play -/
theorem bst_best {v : Nat → Nat} (hn : n ≤ 30) (hv : ∀ c, c < n → T 7 c = nI (v c)) (lv : ∀ c, c < n → v c < 2 ^ 31) (p : Int32) : ∀ i, i ≤ n → ∀ k, k < i → T 9 k = 0 → T 3 k = p → ∃ j, j < i ∧ bst T p i = nI j ∧ (v k < v j ∨ (v k = v j ∧ j ≤ k)) := by
  intro i
  induction i with
  | zero => intro _ k hk; omega
  | succ i ih =>
    intro hi k hk h9 h3
    rw [bst]
    by_cases hc : T 9 i = 0 ∧ T 3 i = p ∧ (bst T p i = (-5) ∨ ¬ T 7 i ≤ T 7 (bst T p i).toNatClampNeg)
    · rw [if_pos hc]
      refine ⟨i, by omega, rfl, ?_⟩
      by_cases hki : k = i
      · exact Or.inr ⟨by rw [hki], by omega⟩
      · obtain ⟨j, hj, ej, hjk⟩ := ih (by omega) k (by omega) h9 h3
        rcases hc.2.2 with h5 | h5
        · rw [ej] at h5
          exact absurd h5 (nI_nem5 (by omega))
        · rw [ej, cl_nI (by omega), hv i (by omega), hv j (by omega), nI_leI (lv i (by omega)) (lv j (by omega))] at h5
          omega
    · rw [if_neg hc]
      by_cases hki : k = i
      · subst hki
        have h5 : ¬ (bst T p k = (-5) ∨ ¬ T 7 k ≤ T 7 (bst T p k).toNatClampNeg) := fun q => hc ⟨h9, h3, q⟩
        rcases bst_or T p k with e | ⟨j, hj, e, _, _⟩
        · exact absurd (Or.inl e) h5
        · refine ⟨j, by omega, e, ?_⟩
          have h6 : T 7 k ≤ T 7 (bst T p k).toNatClampNeg := Classical.byContradiction (fun q => h5 (Or.inr q))
          rw [e, cl_nI (by omega), hv k (by omega), hv j (by omega), nI_leI (lv k (by omega)) (lv j (by omega))] at h6
          omega
      · obtain ⟨j, hj, ej, hjk⟩ := ih (by omega) k (by omega) h9 h3
        exact ⟨j, by omega, ej, hjk⟩
theorem bst_none (hn : n ≤ 30) {v : Nat → Nat} (hv : ∀ c, c < n → T 7 c = nI (v c)) (lv : ∀ c, c < n → v c < 2 ^ 31) (p : Nat) : (bst T (nI p) n = (-5)) ↔ cnt (pBe T 0 false (nI p)) n = 0 := by
  constructor
  · intro e
    refine cnt_zero (fun k hk => ?_)
    cases hq : pBe T 0 false (nI p) k with
    | false => rfl
    | true =>
      simp only [pBe, ofP, Bool.false_or, Bool.and_eq_true, decide_eq_true_eq] at hq
      obtain ⟨j, hj, ej, _⟩ := bst_best hn hv lv (nI p) n (Nat.le_refl _) k hk hq.1 hq.2
      rw [e] at ej
      exact absurd ej.symm (nI_nem5 (by omega))
  · intro e
    rcases bst_or T (nI p) n with q | ⟨j, hj, q, q9, q3⟩
    · exact q
    · have := cnt_in (P := pBe T 0 false (nI p)) hj (by simp [pBe, ofP, q9, q3])
      omega
theorem sh_fl : ∀ a, a < 31 → ∀ b, b < 31 → (b = 0 ∨ (decide (FP.fdiv (FP.i2f (nI a)) (FP.i2f (nI b)) &&& 0x7fffffff ≤ 0x7f800000) && decide (Op.cmpValue (FP.fcmp (FP.fdiv (FP.i2f (nI a)) (FP.i2f (nI b))) (FP.fdiv (FP.i2f (nI a)) (FP.i2f (nI b)))) .l = 0)) = true) := by decide +kernel
theorem sh_f0 : Op.cmpValue (FP.fcmp FP.fconst0 FP.fconst0) .l = 0 := by decide +kernel
/-- a player's share, as the law reckons it -/
theorem q_share {M : Mm} (h : Iv (M 1) n) {v : Nat → Nat} (hv : ∀ c, c < n → M 1 7 c = nI (v c)) (hb : sm v n ≤ 30) {p : Nat} (hp : p < 6) : vpl (M 1) v n p ≤ 30 ∧ ∃ r : UInt32, m_X5_share (nI p) M = some (r.toInt32, M) ∧ ((sm v n = 0 ∧ r = FP.fconst0) ∨ (sm v n ≠ 0 ∧ r = FP.fdiv (FP.i2f (nI (vpl (M 1) v n p))) (FP.i2f (nI (sm v n))))) := by
  have hvp : vpl (M 1) v n p ≤ sm v n := sm_mono (fun i _ => by split <;> omega)
  obtain ⟨p1, p5⟩ := all_p p hp
  refine ⟨by omega, ?_⟩
  unfold m_X5_share
  rw [s_victoriesOf h, bnd_s, nm_u, uM_self, s_isPlayer, bnd_s, hC_nI hp (by decide), bf_t, d11, bx_sm (M 1) n hv]
  by_cases h0 : sm v n = 0
  · have c : ¬ (1 : Int32) ≤ nI (sm v n) := by rw [h0]; decide
    rw [if_neg c]
    unfold m_X5_share_21
    exact ⟨FP.fconst0, rfl, Or.inl ⟨h0, rfl⟩⟩
  · have c : (1 : Int32) ≤ nI (sm v n) := nI_le (a := 1) (by omega) (by omega)
    rw [if_pos c, s_victoriesOf h, bnd_s, nm_u, uM_self, p1, bx_pl (M 1) p n hv]
    have t := sh_fl (vpl (M 1) v n p) (by omega) (sm v n) (by omega)
    rcases t with t | t
    · exact absurd t h0
    · rw [Bool.and_eq_true] at t
      rw [t.1, gd_t]
      exact ⟨_, rfl, Or.inr ⟨h0, rfl⟩⟩
end HANGS
