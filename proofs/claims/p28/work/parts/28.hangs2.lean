/-! hangs: its loops -/
section HANGS2
variable {T : Tm} {n s : Nat}
theorem i_m5lt : ((-5) : Int32) < 0 := by decide
set_option maxHeartbeats 4000000 in
/-- of one player: what is owned and sent -/
theorem hg_in (hS : St T n s) {v : Nat → Nat} {lo : Nat} (hv : ∀ c, c < n → T 7 c = nI (v c)) (hb : sm v n ≤ 30) {p : Nat} (hp : p < 6) (κ : Int32 → Int32 → Int32 → Mm → Option (Int32 × Mm)) (al : Int32) (A : Nat) : ∀ (m k : Nat) (M : Mm), k ≤ n → n - k < m → M 1 = T → m_L_hangs_151 κ m al (nI A) (nI p) (bst T (nI p) n) (nI (cnt (pOw T p) n)) (nI (cnt (pOw T p) k)) (nI k) M = κ al (nI (A + vpl T v n p)) (nI (p + 1)) M := by
  have h := hS.1
  have hn := iv_n h
  have lv : ∀ c, c < n → v c < 2 ^ 31 := fun c hc => by have := sm_one (v := v) hc; omega
  intro m
  induction m with
  | zero => intro k M _ h; omega
  | succ m ih =>
    intro k M hk hm e
    have hI : Iv (M 1) n := by rw [e]; exact h
    rw [m_L_hangs_151.eq_2, c_0 hI, bnd_s]
    by_cases hkn : k = n
    · subst hkn
      rw [if_pos (nI_le (Nat.le_refl _) (by omega)), p_5 hI hp, bnd_s, e, if_pos rfl, bx_pl T p k hv, nI_add]
      -- the share and the strings
      have t338 : ∀ M' : Mm, M' = M → m_L_hangs_338 κ al (nI (A + vpl T v k p)) (nI p) M' = κ al (nI (A + vpl T v k p)) (nI (p + 1)) M := fun M' eM => by
        subst eM
        obtain ⟨j, hj, ej⟩ := iv_str h p hp
        have c20 : ¬ (20 : Int32) < nI j := nlt (a := 20) hj (by decide)
        have hv' : ∀ c, c < k → M' 1 7 c = nI (v c) := by rw [e]; exact hv
        obtain ⟨lvp, r, er, hr⟩ := q_share hI hv' hb hp
        rw [e] at lvp hr
        unfold m_L_hangs_338
        rw [p_0 hI hp, bnd_s, e, ej, if_neg (nn0 (by omega)), p_0 hI hp, bnd_s, e, ej, if_neg c20, er, bnd_s, c_4 hI, bnd_s, e, bx_sm T k hv]
        have er2 : r.toInt32.toUInt32 = r := by simp
        rcases hr with ⟨h0, rfl⟩ | ⟨h0, rfl⟩
        · have c0 : nI (sm v k) = 0 := by rw [h0]; rfl
          rw [if_pos c0, er2]
          unfold m_L_hangs_393
          rw [if_pos sh_f0, nI_p1]
        · have c0 : ¬ nI (sm v k) = 0 := nI_ne0 (by omega) (by omega)
          rw [if_neg c0, p_5 hI hp, bnd_s, c_4 hI, bnd_s, e, bx_sm T k hv, bx_pl T p k hv, er2]
          have t := sh_fl (vpl T v k p) (by omega) (sm v k) (by omega)
          rcases t with t | t
          · exact absurd t h0
          · rw [Bool.and_eq_true, decide_eq_true_eq, decide_eq_true_eq] at t
            have t1 := decide_eq_true t.1
            rw [t1, gd_t]
            unfold m_L_hangs_393
            rw [if_pos t.2, nI_p1]
      unfold m_L_hangs_292
      rw [p_2 hI hp, e]
      unfold m_L_hangs_307
      have bn := bst_none hn hv lv p
      rcases bst_or T (nI p) k with q | ⟨j, hj, q, q9, q3⟩
      · have c1 : ¬ (0 : Int32) ≤ (-5) := by decide
        have c2 : nI (cnt (pBe T 0 false (nI p)) k) = 0 := by rw [bn.mp q]; rfl
        rw [q, if_neg c1, bnd_s, if_pos c2, if_pos rfl, if_pos i_m5lt]
        exact t338 M rfl
      · have c1 : (0 : Int32) ≤ nI j := nI_pos' (by omega)
        have c2 : ¬ nI (cnt (pBe T 0 false (nI p)) k) = 0 := by
          have l := cnt_le (pBe T 0 false (nI p)) k
          refine nI_ne0 ?_ (by omega)
          apply Nat.pos_of_ne_zero
          intro z
          have := bn.mpr z
          rw [q] at this
          exact nI_nem5 (by omega) this
        rw [q, if_pos c1, bnd_s, if_neg c2, if_pos rfl, if_neg (nn0 (by omega)), k_0 hI hj, bnd_s, e, if_pos q3, k_6 hI hj, bnd_s, e, if_pos q9]
        exact t338 M rfl
    · have hk' : k < n := by omega
      have st := ih (k + 1) M (by omega) (by omega) e
      rw [cnt] at st
      rw [if_neg (nI_ge (by omega) (by omega)), k_0 hI hk', bnd_s, e]
      unfold m_L_hangs_178
      by_cases q3 : T 3 k = nI p
      · have w1 : pOw T p k = true := by simp [pOw, q3]
        rw [w1, if_pos rfl] at st
        rw [if_pos q3, if_neg (by decide)]
        unfold m_L_hangs_192
        have tail : m_L_hangs_259 κ (m_L_hangs_151 κ m) al (nI A) (nI p) (bst T (nI p) n) (nI (cnt (pOw T p) n)) (nI (cnt (pOw T p) k) + 1) (nI k) M = κ al (nI (A + vpl T v n p)) (nI (p + 1)) M := by
          unfold m_L_hangs_259
          rw [nI_p1, nI_p1]
          exact st
        rw [if_neg (by decide), k_6 hI hk', bnd_s, e]
        by_cases q9 : T 9 k = 0
        · obtain ⟨j, hj, ej, hjk⟩ := bst_best hn hv lv (nI p) n (Nat.le_refl _) k hk' q9 q3
          rw [if_pos q9, ej, if_neg (nn0 (by omega)), k_4 hI hk', bnd_s, k_4 hI hj, bnd_s, e, hv k hk', hv j hj]
          have c1 : ¬ nI (v j) < nI (v k) := nlt (by omega) (lv j hj)
          rw [if_neg c1, k_4 hI hk', bnd_s, k_4 hI hj, bnd_s, e, hv k hk', hv j hj]
          rw [ej] at tail
          by_cases ev : nI (v k) = nI (v j)
          · have ev' := nI_inj (lv k hk') (lv j hj) ev
            have c2 : nI j ≤ nI k := nI_le (by omega) (by omega)
            rw [if_pos ev, if_pos c2]
            exact tail
          · rw [if_neg ev]
            exact tail
        · rw [if_neg q9]
          exact tail
      · have w1 : pOw T p k = false := by simp [pOw, q3]
        rw [w1] at st
        simp only [if_false, Nat.add_zero, Bool.false_eq_true] at st
        rw [if_neg q3, if_pos rfl]
        unfold m_L_hangs_192 m_L_hangs_259
        have z0 : nI (cnt (pOw T p) k) + 0 = nI (cnt (pOw T p) k) := Int32.add_zero _
        rw [if_pos rfl, z0, nI_p1]
        exact st
theorem hg_pl (hS : St T n s) {v : Nat → Nat} {lo : Nat} (hv : ∀ c, c < n → T 7 c = nI (v c)) (hb : sm v n ≤ 30) : ∀ (m p : Nat) (M : Mm), p ≤ 6 → 6 - p < m → M 1 = T → ∃ X : Tm, m_L_hangs_103 m (nI (cnt (liv T) n)) (nI (sm (vpl T v n) p)) (nI p) M = some (1, uM M 13 X) := by
  have h := hS.1
  have hn := iv_n h
  have lv : ∀ c, c < n → v c < 2 ^ 31 := fun c hc => by have := sm_one (v := v) hc; omega
  have ll := cnt_le (liv T) n
  intro m
  induction m with
  | zero => intro p M _ h; omega
  | succ m ih =>
    intro p M hp hm e
    have hI : Iv (M 1) n := by rw [e]; exact h
    rw [m_L_hangs_103.eq_2]
    by_cases h6 : p = 6
    · subst h6
      obtain ⟨X, hX⟩ := L_conkers hS e
      have e4 := c_4 hI
      rw [e, bx_sm T n hv] at e4
      rw [if_pos (by decide), q_ranked hI _ (by omega), bnd_s, e, ranked_none hn hv lv, if_pos rfl, e4, bnd_s, vpl_all h, if_pos rfl, hX, bnd_s, if_neg (by decide)]
      exact ⟨X, rfl⟩
    · have hp6 : p < 6 := by omega
      have c : ¬ (6 : Int32) ≤ nI p := nI_ge (b := 6) (by omega) (by decide)
      rw [if_neg c, p_6 hI hp6, bnd_s, p_2 hI hp6, bnd_s, p_3 hI hp6, bnd_s, p_4 hI hp6, bnd_s, e, nI_add, nI_add, own_all hS.2.1 p n (Nat.le_refl _)]
      have inn := hg_in (lo := lo) hS hv hb hp6 (m_L_hangs_103 m) (nI (cnt (liv T) n)) (sm (vpl T v n) p) fu 0 M (Nat.zero_le _) (by unfold fu; omega) e
      have z : (0 : Int32) = nI 0 := rfl
      have i' : m_L_hangs_151 (m_L_hangs_103 m) fu (nI (cnt (liv T) n)) (nI (sm (vpl T v n) p)) (nI p) (bst T (nI p) n) (nI (cnt (pOw T p) n)) 0 0 M = m_L_hangs_103 m (nI (cnt (liv T) n)) (nI (sm (vpl T v n) p + vpl T v n p)) (nI (p + 1)) M := inn
      rw [i']
      exact ih (p + 1) M (by omega) (by omega) e
set_option maxHeartbeats 1000000 in
theorem hg_rk (hS : St T n s) {v : Nat → Nat} {lo : Nat} (hv : ∀ c, c < n → T 7 c = nI (v c)) (hb : sm v n ≤ 30) : ∀ (m r : Nat) (b : Int32) (M : Mm), r ≤ cnt (liv T) n → cnt (liv T) n - r < m → M 1 = T → (b = (-1) ∨ ∃ c, c < n ∧ b = nI c ∧ liv T c = true ∧ ah T n c + 1 = r) → m_L_hangs_16 m (nI (cnt (liv T) n)) b (nI r) M = m_L_hangs_103 fu (nI (cnt (liv T) n)) 0 0 M := by
  have h := hS.1
  have hn := iv_n h
  have lv : ∀ c, c < n → v c < 2 ^ 31 := fun c hc => by have := sm_one (v := v) hc; omega
  have ll := cnt_le (liv T) n
  intro m
  induction m with
  | zero => intro r b M _ h; omega
  | succ m ih =>
    intro r b M hr hm e hbb
    have hI : Iv (M 1) n := by rw [e]; exact h
    rw [m_L_hangs_16.eq_2]
    by_cases hrl : r = cnt (liv T) n
    · rw [hrl, if_pos (nI_le (Nat.le_refl _) (by omega))]
    · obtain ⟨c, hc, hl, ha, hf⟩ := ranked_at hn hv lv (r := r) (by omega)
      have h2 : ¬ T 9 c = 2 := by
        unfold liv at hl
        simpa using hl
      have nxt := ih (r + 1) (nI c) M (by omega) (by omega) e (Or.inr ⟨c, hc, rfl, hl, by omega⟩)
      rw [if_neg (nI_ge (by omega) (by omega)), q_ranked hI r (by omega), bnd_s, e, hf, if_neg (nn0 (by omega)), k_6 hI hc, bnd_s, e, if_neg h2]
      unfold m_L_hangs_89
      rw [nI_p1]
      rcases hbb with hb1 | ⟨d, hd, hb1, hld, had⟩
      · have c1 : ((-1) : Int32) < 0 := by decide
        rw [hb1, if_pos c1]
        exact nxt
      · have hdc : ¬ (v d < v c ∨ (v c = v d ∧ c < d)) := fun q => by
          have := ah_lt hv lv hc hd hl q
          omega
        have hne : c ≠ d := fun q => by subst q; omega
        rw [hb1, if_neg (nn0 (by omega)), k_4 hI hc, bnd_s, k_4 hI hd, bnd_s, e, hv c hc, hv d hd]
        have c1 : ¬ nI (v d) < nI (v c) := nlt (by omega) (lv d hd)
        rw [if_neg c1, k_4 hI hc, bnd_s, k_4 hI hd, bnd_s, e, hv c hc, hv d hd]
        by_cases ev : nI (v c) = nI (v d)
        · have ev' := nI_inj (lv c hc) (lv d hd) ev
          have c2 : nI d ≤ nI c := nI_le (by omega) (by omega)
          rw [if_pos ev, if_pos c2]
          exact nxt
        · rw [if_neg ev]
          exact nxt
/-- hangs is true of every state -/
theorem L_hangs (hS : St T n s) {M : Mm} (e : M 1 = T) : ∃ X : Tm, m_L_hangs M = some (1, uM M 13 X) := by
  have h := hS.1
  have hn := iv_n h
  have hI : Iv (M 1) n := by rw [e]; exact h
  obtain ⟨v, lo, h1, h2, h3⟩ := iv_v h
  have hcn := cnt_le (nby T) n
  unfold m_L_hangs
  rw [c_1 hI, bnd_s, c_2 hI, bnd_s, e, nI_add, alive_all hS.2.1 n (Nat.le_refl _)]
  have r := hg_rk (lo := lo) hS h1 (by omega) fu 0 (-1) M (Nat.zero_le _) (by have := cnt_le (liv T) n; unfold fu; omega) e (Or.inl rfl)
  have r' : m_L_hangs_16 fu (nI (cnt (liv T) n)) (-1) 0 M = m_L_hangs_103 fu (nI (cnt (liv T) n)) 0 0 M := r
  rw [r']
  exact hg_pl (lo := lo) hS h1 (by omega) fu 0 M (by decide) (by unfold fu; omega) e
end HANGS2
