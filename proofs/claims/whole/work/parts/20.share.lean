/-! SHARE: finite for all sums that can be -/
section SHARE
variable {T : Tm} {n : Nat}
/-- the answer's bits: a number as a double, and equal to itself -/
def shOk (r : Int32) : Prop := vf_n64 (FP.f2d r.toUInt32) ∧ Op.cmpValue (FP.dcmp (FP.f2d r.toUInt32) (FP.f2d r.toUInt32)) .l = 0
def shB (r : Int32) : Bool := decide (FP.f2d r.toUInt32 &&& 0x7fffffffffffffff ≤ 0x7ff0000000000000) && decide (Op.cmpValue (FP.dcmp (FP.f2d r.toUInt32) (FP.f2d r.toUInt32)) .l = 0)
theorem shB_t {r : Int32} (h : shB r = true) : shOk r := by
  unfold shB at h
  rw [Bool.and_eq_true, decide_eq_true_eq, decide_eq_true_eq] at h
  exact h
theorem sh_0 : shB (FP.fconst0).toInt32 = true := by decide +kernel
theorem sh_all : ∀ a, a < 31 → ∀ b, b < 31 → (b = 0 ∨ (decide (FP.fdiv (FP.i2f (nI a)) (FP.i2f (nI b)) &&& 0x7fffffff ≤ 0x7f800000) && shB (FP.fdiv (FP.i2f (nI a)) (FP.i2f (nI b))).toInt32) = true) := by decide +kernel
theorem bx_nI (h : Iv T n) (all : Bool) (p : Int32) : ∃ x, x ≤ 30 ∧ bx_sum (vf T all p) n = nI x := by
  obtain ⟨v, l, h1, _, h3⟩ := iv_v h
  have hn := iv_n h
  have hc := cnt_le (nby T) n
  have st : ∀ m, m ≤ n → ∃ x, x ≤ sm v m ∧ bx_sum (vf T all p) m = nI x := by
    intro m
    induction m with
    | zero => intro _; exact ⟨0, Nat.zero_le _, rfl⟩
    | succ m ih =>
      intro hm
      obtain ⟨x, hx, e⟩ := ih (by omega)
      by_cases ho : ofP T all p m = true
      · refine ⟨x + v m, ?_, ?_⟩
        · rw [sm]; omega
        · rw [bx_sum, e, vf, if_pos ho, h1 m (by omega), nI_add]
      · refine ⟨x, ?_, ?_⟩
        · rw [sm]; omega
        · rw [bx_sum, e, vf, if_neg ho]
          exact Int32.add_zero _
  obtain ⟨x, hx, e⟩ := st n (Nat.le_refl _)
  exact ⟨x, by omega, e⟩
theorem op_share (a : Int32) : ∀ (M : Mm) (TM : Tm), Rel M TM → ∃ (r : Int32) (M' : Mm) (TM' : Tm), m_X5_share a M = some (r, M') ∧ m_X6_share a TM = some (r, TM') ∧ Rel M' TM' ∧ shOk r := by
  intro M TM ⟨⟨n, hN⟩, hr⟩
  have h := hN.1
  have hR := hN.2
  have hn := iv_n h
  obtain ⟨x, hx, ex⟩ := bx_nI h true (-1)
  unfold m_X5_share m_X6_share m_X5_share_21 m_X6_share_18
  rw [s_victoriesOf h, bnd_s, nm_u, uM_self, s_victoriesM hn hR, bnd_s, d11, d55, vf_all _ (-5) (-1), ex, s_isPlayer, bnd_s, s_isPlayerM, bnd_s]
  cases hp : hC a 6 with
  | false => rw [bf_f, bf_f]; exact ⟨_, _, _, rfl, rfl, ⟨⟨n, hN⟩, hr⟩, shB_t sh_0⟩
  | true =>
    obtain ⟨p, hp2, rfl⟩ := hC_t hp (by decide)
    obtain ⟨p1, p5⟩ := all_p p hp2
    rw [bf_t, bf_t]
    by_cases h0 : x = 0
    · subst h0
      have c1 : ¬ (1 : Int32) ≤ nI 0 := by decide
      have c2 : nI 0 = 0 := rfl
      rw [if_neg c1, if_pos c2]
      exact ⟨_, _, _, rfl, rfl, ⟨⟨n, hN⟩, hr⟩, shB_t sh_0⟩
    · have c1 : (1 : Int32) ≤ nI x := nI_le (a := 1) (by omega) (by omega)
      have c2 : ¬ nI x = 0 := nI_ne0 (by omega) (by omega)
      obtain ⟨y, hy, ey⟩ := bx_nI h false (nI p)
      have hb := sh_all y (by omega) x (by omega)
      rcases hb with hb | hb
      · exact absurd hb h0
      rw [Bool.and_eq_true] at hb
      rw [if_pos c1, if_neg c2, s_victoriesOf h, bnd_s, nm_u, uM_self, s_victoriesM hn hR, bnd_s, p1, p5, ey, hb.1, gd_t, gd_t]
      exact ⟨_, _, _, rfl, rfl, ⟨⟨n, hN⟩, hr⟩, shB_t hb.2⟩
end SHARE
