/-! THE LAW'S OWN METHODS: print and conkers -/
def PR (T : Tm) (h : Int64) : Prop := ∀ M : Mm, M 1 = T → m_L_print M = some (0, uM M 99 (enc h))
section LAW1
variable {T : Tm} {n s : Nat}
theorem g2 : (!decide ((2 : Int32) = 0)) = true := by decide
theorem g9 : (!decide ((9 : Int32) = 0)) = true := by decide
theorem g4 : (!decide ((4 : Int32) = 0)) = true := by decide
theorem g8 : (!decide ((8 : Int32) = 0)) = true := by decide
theorem g5 : (!decide ((5 : Int32) = 0)) = true := by decide
theorem d_n {a d : Nat} (ha : a < 2 ^ 31) (h0 : 0 < d) (hd : d < 2 ^ 31) : nI a / nI d = nI (a / d) := pk_div ha h0 hd
theorem pr_73 (h : Iv T n) : ∀ (m i : Nat) (j : Int64), i ≤ 12 → 12 - i < m → ∃ z, ∀ M : Mm, M 1 = T → m_L_print_73 m j (nI i) M = some (0, uM M 99 (enc z)) := by
  intro m
  induction m with
  | zero => intro i j _ h; omega
  | succ m ih =>
    intro i j hi hm
    by_cases h12 : i = 12
    · subst h12
      refine ⟨j, fun M _ => ?_⟩
      rw [m_L_print_73.eq_2, if_pos (by decide)]
    · have c : ¬ (12 : Int32) ≤ nI i := nI_ge (b := 12) (by omega) (by decide)
      obtain ⟨z, hz⟩ := ih (i + 1) ((31 * j) + (pvl T n (i / 2) (i % 2)).toInt64) (by omega) (by omega)
      refine ⟨z, fun M e => ?_⟩
      have e1 : nI i / 2 = nI (i / 2) := d_n (d := 2) (by omega) (by decide) (by decide)
      have e2 : nI i - nI i / 2 * 2 = nI (i % 2) := pk_rem (d := 2) (by omega) (by decide) (by decide)
      have hI : Iv (M 1) n := by rw [e]; exact h
      rw [m_L_print_73.eq_2, if_neg c, g2, gd_t, gd_t, e2, e1, q_player hI (show i / 2 < 6 by omega) (i % 2) (by omega), bnd_s, nI_p1, e]
      exact hz M e
theorem pr_33 (h : Iv T n) : ∀ (m i : Nat) (j : Int64), i ≤ 9 * n → 9 * n - i < m → ∃ z, ∀ M : Mm, M 1 = T → m_L_print_33 m j (nI i) M = some (0, uM M 99 (enc z)) := by
  have hn := iv_n h
  intro m
  induction m with
  | zero => intro i j _ h; omega
  | succ m ih =>
    intro i j hi hm
    have e9 : (9 : Int32) * nI n = nI (9 * n) := pk_mul 9 n
    by_cases h12 : i = 9 * n
    · subst h12
      obtain ⟨z, hz⟩ := pr_73 h fu 0 j (by decide) (by unfold fu; omega)
      refine ⟨z, fun M e => ?_⟩
      have hI : Iv (M 1) n := by rw [e]; exact h
      rw [m_L_print_33.eq_2, c_0 hI, bnd_s, e9, if_pos (nI_le (Nat.le_refl _) (by omega))]
      exact hz M e
    · have c : ¬ nI (9 * n) ≤ nI i := nI_ge (by omega) (by omega)
      obtain ⟨z, hz⟩ := ih (i + 1) ((31 * j) + (kvl T n (i / 9) (i % 9)).toInt64) (by omega) (by omega)
      refine ⟨z, fun M e => ?_⟩
      have e1 : nI i / 9 = nI (i / 9) := d_n (d := 9) (by omega) (by decide) (by decide)
      have e2 : nI i - nI i / 9 * 9 = nI (i % 9) := pk_rem (d := 9) (by omega) (by decide) (by decide)
      have hI : Iv (M 1) n := by rw [e]; exact h
      rw [m_L_print_33.eq_2, c_0 hI, bnd_s, e9, if_neg c, g9, gd_t, gd_t, e2, e1, q_conker hI (show i / 9 < n by omega) (i % 9) (by omega), bnd_s, nI_p1, e]
      exact hz M e
theorem pr_6 (h : Iv T n) : ∀ (m i : Nat) (j : Int64), i ≤ 10 → 10 - i < m → ∃ z, ∀ M : Mm, M 1 = T → m_L_print_6 m j (nI i) M = some (0, uM M 99 (enc z)) := by
  have hn := iv_n h
  intro m
  induction m with
  | zero => intro i j _ h; omega
  | succ m ih =>
    intro i j hi hm
    by_cases h12 : i = 10
    · subst h12
      obtain ⟨z, hz⟩ := pr_33 h fu 0 j (Nat.zero_le _) (by unfold fu; omega)
      refine ⟨z, fun M e => ?_⟩
      rw [m_L_print_6.eq_2, if_pos (by decide)]
      exact hz M e
    · have c : ¬ (10 : Int32) ≤ nI i := nI_ge (b := 10) (by omega) (by decide)
      obtain ⟨z, hz⟩ := ih (i + 1) ((31 * j) + (cvl T n i).toInt64) (by omega) (by omega)
      refine ⟨z, fun M e => ?_⟩
      have hI : Iv (M 1) n := by rw [e]; exact h
      rw [m_L_print_6.eq_2, if_neg c, q_count hI i (by omega), bnd_s, nI_p1, e]
      exact hz M e
/-- what is printed is of the state that is now alone -/
theorem pr_all (h : Iv T n) : ∃ z, PR T z := pr_6 h fu 0 23 (by decide) (by unfold fu; omega)
theorem lg_same (z : Int64) : lg_cmp z z = 0 := by
  unfold lg_cmp
  rw [if_neg (by rw [gt_iff_lt]; exact Int64.lt_irrefl), if_pos rfl]
/-! conkers -/
def pHw (T : Tm) (j : Nat) : Nat → Bool := fun c => decide (T 9 c = nI j)
theorem pHw_be (T : Tm) (j : Nat) (x : Int32) (hx : x = nI j) (n : Nat) : cnt (pBe T x true (-1)) n = cnt (pHw T j) n := cnt_congr (fun c _ => by simp [pBe, ofP, pHw, hx])
theorem bx_sm (T : Tm) {v : Nat → Nat} : ∀ i, (∀ c, c < i → T 7 c = nI (v c)) → bx_sum (vf T true (-1)) i = nI (sm v i) := by
  intro i
  induction i with
  | zero => intro _; rfl
  | succ i ih =>
    intro h
    rw [bx_sum, ih (fun c hc => h c (by omega)), sm, vf]
    simp [ofP, h i (by omega)]
    exact nI_add _ _
/-- how many those that a conker smashed count to -/
def hz (T : Tm) (n c : Nat) : Nat := cnt (pHe T (nI c)) n
def gl (T : Tm) (n i m : Nat) : Nat := if T 10 m = nI i then 1 + ln T n m else 0
theorem sm_bd {f : Nat → Nat} {n b : Nat} (h : ∀ i, i < n → f i ≤ b) : sm f n ≤ n * b := by
  induction n with
  | zero => exact Nat.zero_le _
  | succ n ih =>
    rw [sm, Nat.succ_mul]
    have h1 := ih (fun i hi => h i (by omega))
    have h2 := h n (by omega)
    omega
theorem uM_13 (M : Mm) : uM M 13 (M 13) = M := uM_self M 13
set_option maxHeartbeats 4000000 in
theorem ck_in (hS : St T n s) {i : Nat} (hi : i < n) (κ : Int32 → Int32 → Int32 → Int32 → Int32 → Int32 → Mm → Option (Int32 × Mm)) (b2 b3 b4 b5 b6 : Int32) : ∀ (m j : Nat) (M : Mm), j ≤ n → n - j < m → M 1 = T → m_L_conkers_150 κ m b2 b3 b4 b5 b6 (nI i) (T 9 i) (T 10 i) (T 8 i) (nI (sm (gl T n i) j)) (nI j) M = κ b2 b3 b4 b5 b6 (nI (i + 1)) M := by
  have h := hS.1
  have hn := iv_n h
  intro m
  induction m with
  | zero => intro j M _ h; omega
  | succ m ih =>
    intro j M hj hm e
    have hI : Iv (M 1) n := by rw [e]; exact h
    have lb : ∀ m, m < n → gl T n i m ≤ 31 := fun m hm => by
      unfold gl
      have := ln_le T n m
      split <;> omega
    rw [m_L_conkers_150.eq_2, c_0 hI, bnd_s, nm_u, uM_13]
    by_cases hjn : j = n
    · subst hjn
      rw [if_pos (nI_le (Nat.le_refl _) (by omega))]
      obtain ⟨⟨w, w1, ew⟩, ⟨x, x1, ex, x2⟩, ⟨y, y1, ey, y2, y3⟩, e4, e5, e6⟩ := hS.2.1 i hi
      have eln : sm (gl T j i) j = ln T j i := (ln_sum h hi).symm
      have lln := ln_le T j i
      have lhe := ln_heirs h hi
      -- the last two tests
      have t324 : ∀ M' : Mm, M' = M → m_L_conkers_324 κ b2 b3 b4 b5 b6 (nI i) (nI (sm (gl T j i) j)) M' = κ b2 b3 b4 b5 b6 (nI (i + 1)) M := fun M' eM => by
        subst eM
        unfold m_L_conkers_324
        rw [q_line hI hi, bnd_s, nm_u, uM_13, e, eln, if_pos rfl, k_8 hI hi, bnd_s, nm_u, uM_13, e, if_pos (nI_le lhe (by omega)), nI_p1]
      have t278 : m_L_conkers_278 κ b2 b3 b4 b5 b6 (nI i) (T 10 i) (nI (sm (gl T j i) j)) M = κ b2 b3 b4 b5 b6 (nI (i + 1)) M := by
        have c1 : ¬ (100 : Int32) < nI x := nlt (a := 100) (by omega) (by decide)
        unfold m_L_conkers_278
        rw [k_2 hI hi, bnd_s, nm_u, uM_13, e, ex, if_neg c1]
        rcases iv_by h i hi with h5 | ⟨q, hq, h5⟩
        · have c2 : ((-5) : Int32) < 0 := by decide
          rw [h5, if_pos c2]
          exact t324 M rfl
        · obtain ⟨o1, o2⟩ := e6 q hq h5
          rw [h5, if_neg (nn0 (by omega)), k_0 hI hq, bnd_s, nm_u, uM_13, k_0 hI hi, bnd_s, nm_u, uM_13, e, if_neg o1, k_2 hI hi, bnd_s, nm_u, uM_13, e, if_pos o2]
          exact t324 M rfl
      have t260 : m_L_conkers_260 κ b2 b3 b4 b5 b6 (nI i) (T 9 i) (T 10 i) (nI (sm (gl T j i) j)) M = κ b2 b3 b4 b5 b6 (nI (i + 1)) M := by
        unfold m_L_conkers_260
        by_cases h1 : T 9 i = 1
        · have hy := y3 h1
          have c1 : nI y = 20 := by rw [hy]; rfl
          rw [if_pos h1, k_3 hI hi, bnd_s, nm_u, uM_13, e, ey, if_pos c1]
          exact t278
        · rw [if_neg h1]
          exact t278
      have t243 : m_L_conkers_243 κ b2 b3 b4 b5 b6 (nI i) (T 9 i) (T 10 i) (nI (sm (gl T j i) j)) M = κ b2 b3 b4 b5 b6 (nI (i + 1)) M := by
        unfold m_L_conkers_243
        by_cases h1 : T 9 i = 0
        · have hy := y2 h1
          have c1 : ¬ (19 : Int32) < nI y := nlt (a := 19) (by omega) (by decide)
          rw [if_pos h1, k_3 hI hi, bnd_s, nm_u, uM_13, e, ey, if_neg c1]
          exact t260
        · rw [if_neg h1]
          exact t260
      by_cases h2 : T 9 i = 2
      · obtain ⟨f1, f2⟩ := e4 h2
        rw [if_pos h2, k_4 hI hi, bnd_s, nm_u, uM_13, e, f1, if_pos rfl, if_pos f2]
        exact t243
      · have f1 : T 10 i = (-5) := by
          by_cases q : T 10 i = (-5)
          · exact q
          · exact absurd (iv_by2 h i hi q) h2
        have c1 : nI x ≤ 99 := nI_le (b := 99) (x2 h2) (by decide)
        rw [if_neg h2, if_pos f1, k_2 hI hi, bnd_s, nm_u, uM_13, e, ex, if_pos c1]
        exact t243
    · have hj' : j < n := by omega
      have st := ih (j + 1) M (by omega) (by omega) e
      rw [sm, gl] at st
      rw [if_neg (nI_ge (by omega) (by omega)), k_7 hI hj', bnd_s, nm_u, uM_13, e]
      unfold m_L_conkers_187
      by_cases hq : T 10 j = nI i
      · rw [if_pos hq] at st ⊢
        rw [q_line hI hj', bnd_s, nm_u, uM_13, e, show (1 : Int32) = nI 1 from rfl, nI_add, nI_add, nI_add]
        exact st
      · rw [if_neg hq] at st ⊢
        have z : nI (sm (gl T n i) j) + 0 = nI (sm (gl T n i) j + 0) := nI_add _ 0
        rw [z, nI_p1]
        exact st
set_option maxHeartbeats 4000000 in
theorem ck_out (hS : St T n s) {v : Nat → Nat} {lo : Nat} (hv : ∀ c, c < n → T 7 c = nI (v c)) (hl : T 0 11 = nI lo) (hc : sm v n + lo = cnt (nby T) n) : ∀ (m i : Nat) (M : Mm), i ≤ n → n - i < m → M 1 = T → (∀ j, j < 3 → M 13 1 j = nI (cnt (pHw T j) i)) → ∃ X : Tm, m_L_conkers_20 m (nI (sm v i)) (nI (cnt (pBt T) i)) (nI (cnt (pBh T) i)) (nI (cnt (nby T) i)) (nI (sm (hz T n) i)) (nI i) M = some (1, uM M 13 X) := by
  have h := hS.1
  have hn := iv_n h
  intro m
  induction m with
  | zero => intro i M _ h; omega
  | succ m ih =>
    intro i M hi hm e hX
    have hI : Iv (M 1) n := by rw [e]; exact h
    rw [m_L_conkers_20.eq_2, c_0 hI, bnd_s, nm_u, uM_13]
    by_cases hin : i = n
    · subst hin
      have x0 : M 13 1 ((0 : Int32).toNatClampNeg) = nI (cnt (pHw T 0) i) := hX 0 (by decide)
      have x1 : M 13 1 ((1 : Int32).toNatClampNeg) = nI (cnt (pHw T 1) i) := hX 1 (by decide)
      have x2 : M 13 1 ((2 : Int32).toNatClampNeg) = nI (cnt (pHw T 2) i) := hX 2 (by decide)
      have i0 : ib 0 3 = true := by decide
      have i1 : ib 1 3 = true := by decide
      have i2 : ib 2 3 = true := by decide
      rw [if_pos (nI_le (Nat.le_refl _) (by omega)), c_1 hI, bnd_s, nm_u, uM_13, e, pHw_be T 0 0 rfl, i0, gd_t, nm_u, x0, if_pos rfl, c_2 hI, bnd_s, nm_u, uM_13, e, pHw_be T 1 1 rfl, i1, gd_t, nm_u, x1, if_pos rfl, c_3 hI, bnd_s, nm_u, uM_13, e, pHw_be T 2 2 rfl, i2, gd_t, nm_u, x2, if_pos rfl, c_4 hI, bnd_s, nm_u, uM_13, e, bx_sm T i hv, if_pos rfl, c_8 hI, bnd_s, nm_u, uM_13, e, if_pos rfl, c_9 hI, bnd_s, nm_u, uM_13, e, if_pos rfl, c_7 hI, bnd_s, nm_u, uM_13, e, if_pos rfl]
      have eh : sm (hz T i) i = cnt (nby T) i := heirs_all h
      rw [eh, if_pos rfl]
      unfold m_L_conkers_442
      rw [if_neg (by decide), c_5 hI, bnd_s, nm_u, uM_13, c_7 hI, bnd_s, nm_u, uM_13, e, hl, nI_add, hc, if_pos rfl]
      exact ⟨M 13, by rw [uM_13]⟩
    · have hi' : i < n := by omega
      obtain ⟨⟨w, w1, ew⟩, -, -, -, -, -⟩ := hS.2.1 i hi'
      have iw : ib (nI w) 3 = true := ib_nI (by omega) (by decide)
      have cw : (nI w).toNatClampNeg = w := cl_nI (by omega)
      rw [if_neg (nI_ge (by omega) (by omega)), k_6 hI hi', bnd_s, nm_u, uM_13, k_7 hI hi', bnd_s, nm_u, uM_13, k_5 hI hi', bnd_s, nm_u, uM_13, e]
      have iw' : ib (T 9 i) 3 = true := by rw [ew]; exact iw
      rw [iw', gd_t, nm_u, gd_t, nm_u]
      have cw' : (T 9 i).toNatClampNeg = w := by rw [ew]; exact cw
      rw [cw', hX w (by omega), nI_p1]
      have e2 : (wM M 13 1 w (nI (cnt (pHw T w) i + 1))) 1 = T := by
        rw [show wM M 13 1 w (nI (cnt (pHw T w) i + 1)) 1 = M 1 from uM_ne _ _ _ (by decide)]
        exact e
      have hI2 : Iv ((wM M 13 1 w (nI (cnt (pHw T w) i + 1))) 1) n := by rw [e2]; exact h
      have e13 : (wM M 13 1 w (nI (cnt (pHw T w) i + 1))) 13 = wT (M 13) 1 w (nI (cnt (pHw T w) i + 1)) := uM_same _ _ _
      have hX2 : ∀ j, j < 3 → (wM M 13 1 w (nI (cnt (pHw T w) i + 1))) 13 1 j = nI (cnt (pHw T j) (i + 1)) := by
        intro j hj
        rw [e13, cnt]
        by_cases hjw : j = w
        · subst hjw
          rw [wT_ss]
          simp [pHw, ew]
        · rw [wT_sn _ _ _ hjw, hX j hj]
          have hne : ¬ nI w = nI j := fun q => hjw (nI_inj (by omega) (by omega) q).symm
          simp [pHw, ew, hne]
      have eu : ∀ X, uM (wM M 13 1 w (nI (cnt (pHw T w) i + 1))) 13 X = uM M 13 X := fun X => by
        unfold wM
        rw [uM_uM]
      obtain ⟨X, hR⟩ := ih (i + 1) (wM M 13 1 w (nI (cnt (pHw T w) i + 1))) (by omega) (by omega) e2 hX2
      rw [eu] at hR
      refine ⟨X, ?_⟩
      rw [← hR]
      generalize wM M 13 1 w (nI (cnt (pHw T w) i + 1)) = N at e2 hI2 e13 hX2 eu hR ⊢
      have inn := ck_in hS hi' (m_L_conkers_20 m) (nI (sm v (i + 1))) (nI (cnt (pBt T) (i + 1))) (nI (cnt (pBh T) (i + 1))) (nI (cnt (nby T) (i + 1))) (nI (sm (hz T n) (i + 1))) fu 0 N (Nat.zero_le _) (by unfold fu; omega) e2
      rw [← inn]
      rw [k_4 hI2 hi', bnd_s, nm_u, uM_13, e2, hv i hi', nI_add]
      have t90 : ∀ (κ : Int32 → Int32 → Int32 → Int32 → Int32 → Int32 → Mm → Option (Int32 × Mm)) (B2 b4 b5 b6 s0 s1 : Int32), m_L_conkers_90 κ B2 b4 b5 b6 (nI i) (T 9 i) (T 10 i) (T 8 i) s0 s1 N = m_L_conkers_150 κ fu B2 (s0 + s1) (b4 + (if T 8 i ≤ T 7 i then 0 else 1)) (b5 + (if T 10 i = (-5) then 0 else 1)) (b6 + nI (cnt (pHe T (nI i)) n)) (nI i) (T 9 i) (T 10 i) (T 8 i) 0 0 N := by
        intro κ B2 b4 b5 b6 s0 s1
        unfold m_L_conkers_90
        rw [k_4 hI2 hi', bnd_s, nm_u, uM_13, e2]
        unfold m_L_conkers_111 m_L_conkers_128
        by_cases q7 : T 8 i ≤ T 7 i
        · rw [if_pos q7, if_pos q7]
          by_cases q10 : T 10 i = (-5)
          · rw [if_pos q10, if_pos q10, k_8 hI2 hi', bnd_s, nm_u, uM_13, e2]
          · rw [if_neg q10, if_neg q10, k_8 hI2 hi', bnd_s, nm_u, uM_13, e2]
        · rw [if_neg q7, if_neg q7]
          by_cases q10 : T 10 i = (-5)
          · rw [if_pos q10, if_pos q10, k_8 hI2 hi', bnd_s, nm_u, uM_13, e2]
          · rw [if_neg q10, if_neg q10, k_8 hI2 hi', bnd_s, nm_u, uM_13, e2]
      have z0 : ∀ x, nI x + 0 = nI x := fun x => Int32.add_zero _
      have r1 : nI (cnt (pBt T) (i + 1)) = nI (cnt (pBt T) i) + (if T 8 i = (-5) then 0 else 1) := by
        rw [cnt]
        by_cases q : T 8 i = (-5)
        · simp [pBt, q]
        · simp [pBt, q, nI_p1]
      have r2 : nI (cnt (pBh T) (i + 1)) = nI (cnt (pBh T) i) + (if T 8 i ≤ T 7 i then 0 else 1) := by
        rw [cnt]
        by_cases q : T 8 i ≤ T 7 i
        · simp only [pBh, q]; simp
        · simp only [pBh, q]; simp [nI_p1]
      have r3 : nI (cnt (nby T) (i + 1)) = nI (cnt (nby T) i) + (if T 10 i = (-5) then 0 else 1) := by
        rw [cnt]
        by_cases q : T 10 i = (-5)
        · simp [nby, q]
        · simp [nby, q, nI_p1]
      have s1 : sm v i + v i = sm v (i + 1) := rfl
      have s6 : nI (sm (hz T n) i) + nI (cnt (pHe T (nI i)) n) = nI (sm (hz T n) (i + 1)) := nI_add _ _
      rw [t90, t90, s6, s1, r1, r2, r3]
      by_cases q8 : T 8 i = (-5)
      · rw [if_pos q8, if_pos q8]; rfl
      · rw [if_neg q8, if_neg q8]; rfl
/-- conkers is true of every state -/
theorem L_conkers (hS : St T n s) {M : Mm} (e : M 1 = T) : ∃ X : Tm, m_L_conkers M = some (1, uM M 13 X) := by
  have h := hS.1
  have hn := iv_n h
  obtain ⟨v, lo, h1, h2, h3⟩ := iv_v h
  unfold m_L_conkers m_L_conkers_3
  rw [nm_u]
  obtain ⟨X, hX⟩ := ck_out hS h1 h2 h3 fu 0 (uM M 13 (fun _ _ => 0)) (Nat.zero_le _) (by unfold fu; omega) (by rw [uM_ne _ _ _ (by decide)]; exact e) (fun j _ => by rw [uM_same]; rfl)
  rw [uM_uM] at hX
  exact ⟨X, hX⟩
end LAW1
