/-! ACTIONS on the state that is now (place 0 of the row) -/
theorem wT_comm (T : Tm) {a b : Nat} (i j : Nat) (v w : Int32) (h : a ≠ b) : wT (wT T a i v) b j w = wT (wT T b j w) a i v := by
  funext q c
  simp only [wT_get]
  by_cases h1 : q = a
  · by_cases h2 : q = b
    · omega
    · simp [h1, h]
  · by_cases h2 : q = b
    · subst h2; simp [h1]
    · simp [h1, h2]
section ACTS
variable {T T' TM : Tm} {s : Nat → Int32} {n : Nat}
theorem iv_ch (h : Iv T n) (e10 : T' 0 10 = T 0 10) (hs : ∀ p, p < 6 → ∃ j, j ≤ 20 ∧ T' 1 p = nI j) (e3 : ∀ c, c < n → T' 3 c = T 3 c) (e4 : ∀ c, c < n → T' 4 c = T 4 c) (eb : ∀ c, c < n → T' 10 c = T 10 c) (h2 : ∀ c, c < n → T 10 c ≠ (-5) → T' 9 c = 2)
    (hv : ∃ (v : Nat → Nat) (l : Nat), (∀ c, c < n → T' 7 c = nI (v c)) ∧ T' 0 11 = nI l ∧ sm v n + l = cnt (nby T) n) : Iv T' n := by
  have hc : cnt (nby T') n = cnt (nby T) n := cnt_congr (fun c hc => by unfold nby; rw [eb c hc])
  refine ⟨iv_n h, e10.trans (iv_N h), hs, fun c hc => by rw [e3 c hc]; exact iv_own h c hc, fun c hc => by rw [e4 c hc]; exact iv_hard h c hc, fun c hc => by rw [eb c hc]; exact iv_by h c hc, fun c hc h9 => h2 c hc (by rw [← eb c hc]; exact h9), ?_, ?_⟩
  · rw [hc]; exact hv
  · obtain ⟨d, h1, h3⟩ := iv_d h
    exact ⟨d, fun c hc2 => by rw [hc]; exact h1 c hc2, fun c j hc hj he => h3 c j hc hj (by rw [← eb c hc]; exact he)⟩
theorem iv_vv (h : Iv T n) (e7 : ∀ c, c < n → T' 7 c = T 7 c) (e11 : T' 0 11 = T 0 11) : ∃ (v : Nat → Nat) (l : Nat), (∀ c, c < n → T' 7 c = nI (v c)) ∧ T' 0 11 = nI l ∧ sm v n + l = cnt (nby T) n := by
  obtain ⟨v, l, h1, h2, h3⟩ := iv_v h
  exact ⟨v, l, fun c hc => (e7 c hc).trans (h1 c hc), e11.trans h2, h3⟩
theorem rs_wf (hn : n ≤ 30) (hR : RS T s 0 n) {a f : Nat} (ha : a < n) (hf : f < 7) (v : Int32) : RS (wT T (3 + f) a v) (upd s (16 + 8 * a + f) v) 0 n := by
  obtain ⟨r0, r1, r2, r3, rp, rf⟩ := hR
  have hc : cnt (nby (wT T (3 + f) a v)) n = cnt (nby T) n := cnt_congr (fun c hc => by unfold nby; rw [wT_n _ _ _ _ (by omega)])
  refine ⟨?_, ?_, ?_, ?_, fun p hp => ⟨?_, ?_⟩, fun c hc2 g hg => ?_⟩
  · rw [up_n _ _ (by omega)]; exact r0
  · rw [up_n _ _ (by omega), wT_n _ _ _ _ (by omega)]; exact r1
  · rw [up_n _ _ (by omega), wT_n _ _ _ _ (by omega)]; exact r2
  · rw [up_n _ _ (by omega), hc]; exact r3
  · rw [up_n _ _ (by omega), wT_n _ _ _ _ (by omega)]; exact (rp p hp).1
  · rw [up_n _ _ (by omega), wT_n _ _ _ _ (by omega)]; exact (rp p hp).2
  · by_cases hg2 : g = f
    · subst hg2
      by_cases hca : c = a
      · subst hca
        have e : 0 + 16 + 8 * c + g = 16 + 8 * c + g := by omega
        rw [e, up_s, wT_ss]
      · rw [up_n _ _ (by omega), wT_sn _ _ _ hca]; exact rf c hc2 g hg
    · rw [up_n _ _ (by omega), wT_n _ _ _ _ (by omega)]; exact rf c hc2 g hg
theorem rs_w1 (hn : n ≤ 30) (hR : RS T s 0 n) {q : Nat} (hq : q < 6) (v : Int32) : RS (wT T 1 q v) (upd s (4 + 2 * q) v) 0 n := by
  obtain ⟨r0, r1, r2, r3, rp, rf⟩ := hR
  have hc : cnt (nby (wT T 1 q v)) n = cnt (nby T) n := cnt_congr (fun c hc => by unfold nby; rw [wT_n _ _ _ _ (by omega)])
  refine ⟨?_, ?_, ?_, ?_, fun p hp => ⟨?_, ?_⟩, fun c hc2 g hg => ?_⟩
  · rw [up_n _ _ (by omega)]; exact r0
  · rw [up_n _ _ (by omega), wT_n _ _ _ _ (by omega)]; exact r1
  · rw [up_n _ _ (by omega), wT_n _ _ _ _ (by omega)]; exact r2
  · rw [up_n _ _ (by omega), hc]; exact r3
  · by_cases hpq : p = q
    · subst hpq
      have e : 0 + 4 + 2 * p = 4 + 2 * p := by omega
      rw [e, up_s, wT_ss]
    · rw [up_n _ _ (by omega), wT_sn _ _ _ hpq]; exact (rp p hp).1
  · rw [up_n _ _ (by omega), wT_n _ _ _ _ (by omega)]; exact (rp p hp).2
  · rw [up_n _ _ (by omega), wT_n _ _ _ _ (by omega)]; exact rf c hc2 g hg
theorem rs_w2 (hn : n ≤ 30) (hR : RS T s 0 n) {q : Nat} (hq : q < 6) (v : Int32) : RS (wT T 2 q v) (upd s (5 + 2 * q) v) 0 n := by
  obtain ⟨r0, r1, r2, r3, rp, rf⟩ := hR
  have hc : cnt (nby (wT T 2 q v)) n = cnt (nby T) n := cnt_congr (fun c hc => by unfold nby; rw [wT_n _ _ _ _ (by omega)])
  refine ⟨?_, ?_, ?_, ?_, fun p hp => ⟨?_, ?_⟩, fun c hc2 g hg => ?_⟩
  · rw [up_n _ _ (by omega)]; exact r0
  · rw [up_n _ _ (by omega), wT_n _ _ _ _ (by omega)]; exact r1
  · rw [up_n _ _ (by omega), wT_n _ _ _ _ (by omega)]; exact r2
  · rw [up_n _ _ (by omega), hc]; exact r3
  · rw [up_n _ _ (by omega), wT_n _ _ _ _ (by omega)]; exact (rp p hp).1
  · by_cases hpq : p = q
    · subst hpq
      have e : 0 + 5 + 2 * p = 5 + 2 * p := by omega
      rw [e, up_s, wT_ss]
    · rw [up_n _ _ (by omega), wT_sn _ _ _ hpq]; exact (rp p hp).2
  · rw [up_n _ _ (by omega), wT_n _ _ _ _ (by omega)]; exact rf c hc2 g hg
theorem rs_w11 (hn : n ≤ 30) (hR : RS T s 0 n) (v : Int32) : RS (wT T 0 11 v) (upd s 1 v) 0 n := by
  obtain ⟨r0, r1, r2, r3, rp, rf⟩ := hR
  have hc : cnt (nby (wT T 0 11 v)) n = cnt (nby T) n := cnt_congr (fun c hc => by unfold nby; rw [wT_n _ _ _ _ (by omega)])
  refine ⟨?_, ?_, ?_, ?_, fun p hp => ⟨?_, ?_⟩, fun c hc2 g hg => ?_⟩
  · rw [up_n _ _ (by omega)]; exact r0
  · rw [wT_ss]; exact up_s s 1 v
  · rw [up_n _ _ (by omega), wT_sn _ _ _ (by omega)]; exact r2
  · rw [up_n _ _ (by omega), hc]; exact r3
  · rw [up_n _ _ (by omega), wT_n _ _ _ _ (by omega)]; exact (rp p hp).1
  · rw [up_n _ _ (by omega), wT_n _ _ _ _ (by omega)]; exact (rp p hp).2
  · rw [up_n _ _ (by omega), wT_n _ _ _ _ (by omega)]; exact rf c hc2 g hg
/-- a write of what stands there already -/
theorem rs_same (hR : RS T s 0 n) {a f : Nat} (ha : a < n) (hf : f < 8) {v : Int32} (hv : T (3 + f) a = v) : RS T (upd s (16 + 8 * a + f) v) 0 n := by
  have e : s (16 + 8 * a + f) = v := by
    have := hR.2.2.2.2.2 a ha f hf
    rw [hv, Nat.zero_add] at this
    exact this
  have e2 : upd s (16 + 8 * a + f) v = s := by
    funext x
    unfold upd
    split
    · rename_i h
      rw [h, e]
    · rfl
  rw [e2]
  exact hR
theorem rsp1 (hR : RS T s 0 n) {q : Nat} (hq : q < 6) : s (4 + 2 * q) = T 1 q := by
  have := (hR.2.2.2.2.1 q hq).1
  rw [Nat.zero_add] at this
  exact this
theorem rsp2 (hR : RS T s 0 n) {q : Nat} (hq : q < 6) : s (5 + 2 * q) = T 2 q := by
  have := (hR.2.2.2.2.1 q hq).2
  rw [Nat.zero_add] at this
  exact this
theorem i_pl (q : Nat) : (4 : Int32) + 2 * nI q = nI (4 + 2 * q) := by
  rw [show (4 : Int32) = nI 4 from rfl, show (2 : Int32) = nI 2 from rfl, pk_mul, nI_add]
theorem i_pl1 (q : Nat) : nI (4 + 2 * q) + 1 = nI (5 + 2 * q) := by
  rw [nI_p1]
  have e : 4 + 2 * q + 1 = 5 + 2 * q := by omega
  rw [e]
theorem s_spare (hn : n ≤ 30) {a p : Nat} (ha : a < n) (h3 : TM 1 (16 + 8 * a) = nI p) : m_X6_spare (nI a) TM = some (nI (4 + 2 * p), TM) := by
  unfold m_X6_spare
  rw [s_at0, bnd_s, ib_nI (by omega) (by decide), gd_t, nm_u, cl_nI (by omega), h3, i_pl]
/-- errors of mend and stamp -/
def fE (T : Tm) (n : Nat) (a : Int32) : Int32 := if hC a n = true then (if T 9 a.toNatClampNeg = 1 then 0 else (-4)) else (-1)
def mE (T : Tm) (n : Nat) (a : Int32) : Int32 := if fE T n a = 0 then (if 1 ≤ T 1 (T 3 a.toNatClampNeg).toNatClampNeg then 0 else (-4)) else fE T n a
theorem s_fallenError (h : Iv T n) (a : Int32) : m_X4_fallenError a T = some (fE T n a, T) := by
  have hn := iv_n h
  unfold m_X4_fallenError fE
  rw [s_hasConker h, bnd_s]
  cases hc : hC a n with
  | false => simp [bI]
  | true =>
    obtain ⟨i, hi, rfl⟩ := hC_t hc (by omega)
    rw [ib_nI (by omega) (by decide), gd_t, nm_u, cl_nI (by omega)]
    by_cases h1 : T 9 i = 1 <;> simp [bI, h1]
theorem s_stampErrorM (hn : n ≤ 30) (hR : RS T (TM 1) 0 n) (a : Int32) : m_X6_stampError a TM = some (fE T n a, TM) := by
  unfold m_X6_stampError fE
  rw [s_isConker hn hR, bnd_s]
  cases hc : hC a n with
  | false => simp [bI]
  | true =>
    obtain ⟨i, hi, rfl⟩ := hC_t hc (by omega)
    have e6 := rs_f6 hR i hi
    rw [s_at0, bnd_s, nI_p6, ib_nI (by omega) (by decide), gd_t, nm_u, cl_nI (by omega), cl_nI (by omega), e6]
    by_cases h1 : T 9 i = 1 <;> simp [bI, h1]
theorem fE_0 {a : Int32} (hn : n ≤ 30) (h : fE T n a = 0) : ∃ i, i < n ∧ a = nI i ∧ T 9 i = 1 := by
  unfold fE at h
  by_cases hc : hC a n = true
  · obtain ⟨i, hi, rfl⟩ := hC_t hc (by omega)
    rw [if_pos hc, cl_nI (by omega)] at h
    by_cases h1 : T 9 i = 1
    · exact ⟨i, hi, rfl, h1⟩
    · rw [if_neg h1] at h
      exact absurd h (by decide)
  · rw [if_neg hc] at h
    exact absurd h (by decide)
theorem s_mendError (h : Iv T n) (a : Int32) : m_X4_mendError a T = some (mE T n a, T) := by
  have hn := iv_n h
  unfold m_X4_mendError mE
  rw [s_fallenError h, bnd_s]
  by_cases h0 : fE T n a = 0
  · obtain ⟨i, hi, rfl, h9⟩ := fE_0 hn h0
    obtain ⟨p, hp, e3⟩ := iv_own h i hi
    rw [if_pos h0, if_pos h0, ib_nI (by omega) (by decide), gd_t, nm_u, cl_nI (by omega), e3, ib_nI hp (by decide), gd_t, nm_u]
    by_cases h1 : 1 ≤ T 1 (nI p).toNatClampNeg <;> simp [h1]
  · rw [if_neg h0, if_neg h0]
theorem s_mendErrorM (h : Iv T n) (hR : RS T (TM 1) 0 n) (a : Int32) : m_X6_mendError a TM = some (mE T n a, TM) := by
  have hn := iv_n h
  unfold m_X6_mendError mE fE
  rw [s_isConker hn hR, bnd_s]
  cases hc : hC a n with
  | false => simp [bI]
  | true =>
    obtain ⟨i, hi, rfl⟩ := hC_t hc (by omega)
    obtain ⟨p, hp, e3⟩ := iv_own h i hi
    obtain ⟨j, hj, e1⟩ := iv_str h p hp
    have e6 := rs_f6 hR i hi
    have e0 := (rs_f0 hR i hi).trans e3
    have ep := (rsp1 hR hp).trans e1
    rw [s_at0, bnd_s, nI_p6, ib_nI (by omega) (by decide), gd_t, nm_u, cl_nI (by omega), cl_nI (by omega), e6, e3, cl_nI (by omega), e1, s_spare hn hi e0, bnd_s, ib_nI (by omega) (by decide), gd_t, nm_u, cl_nI (by omega), ep]
    unfold m_X6_mendError_42
    by_cases h1 : T 9 i = 1
    · by_cases h2 : j = 0
      · subst h2
        have c : ¬ (1 : Int32) ≤ nI 0 := by decide
        have c2 : nI 0 = 0 := rfl
        simp [bI, h1, c, c2]
      · have c : (1 : Int32) ≤ nI j := nI_le (a := 1) (by omega) (by omega)
        have c2 : ¬ nI j = 0 := nI_ne0 (by omega) (by omega)
        simp [bI, h1, c, c2]
    · simp [bI, h1]
theorem mE_0 {a : Int32} (h : Iv T n) (h0 : mE T n a = 0) : ∃ i p j, i < n ∧ a = nI i ∧ T 9 i = 1 ∧ p < 6 ∧ T 3 i = nI p ∧ 1 ≤ j ∧ j ≤ 20 ∧ T 1 p = nI j := by
  have hn := iv_n h
  unfold mE at h0
  by_cases h1 : fE T n a = 0
  · obtain ⟨i, hi, rfl, h9⟩ := fE_0 hn h1
    obtain ⟨p, hp, e3⟩ := iv_own h i hi
    obtain ⟨j, hj, e1⟩ := iv_str h p hp
    rw [if_pos h1, cl_nI (by omega), e3, cl_nI (by omega), e1] at h0
    by_cases h2 : j = 0
    · subst h2
      have c : ¬ (1 : Int32) ≤ nI 0 := by decide
      rw [if_neg c] at h0
      exact absurd h0 (by decide)
    · exact ⟨i, p, j, hi, rfl, h9, hp, e3, by omega, hj, e1⟩
  · rw [if_neg h1] at h0
    exact absurd h0 h1
/-- an action: both sides answer alike, and say the same behind it -/
def ACT (T TM : Tm) (n' : Nat) (C R : Option (Int32 × Tm)) : Prop := ∃ (r : Int32) (T' : Tm) (s' : Nat → Int32), C = some (r, T') ∧ R = some (r, sS TM s') ∧ Iv T' n' ∧ RS T' s' 0 n' ∧ ∀ x, 256 ≤ x → s' x = TM 1 x
theorem a_mend (h : Iv T n) (hR : RS T (TM 1) 0 n) {a : Int32} (h0 : mE T n a = 0) : ACT T TM n (m_X4_threadAgain a T) (m_X6_mends a TM) := by
  have hn := iv_n h
  obtain ⟨i, p, j, hi, rfl, h9, hp, e3, hj, hj2, e1⟩ := mE_0 h h0
  have e0 := (rs_f0 hR i hi).trans e3
  have ep := (rsp1 hR hp).trans e1
  have e10 : T 10 i = (-5) := by
    by_cases e : T 10 i = (-5)
    · exact e
    · have := iv_by2 h i hi e
      rw [h9] at this
      exact absurd this (by decide)
  refine ⟨nI (j - 1), wT (wT (wT T 1 p (nI (j - 1))) 6 i 0) 9 i 0, upd (upd (upd (TM 1) (16 + 8 * i + 6) 0) (16 + 8 * i + 3) 0) (4 + 2 * p) (nI (j - 1)), ?_, ?_, ?_, ?_, ?_⟩
  · unfold m_X4_threadAgain
    rw [ib_nI (by omega) (by decide)]
    simp only [gd_t]
    rw [nm_u, cl_nI (by omega), e3, ib_nI hp (by decide)]
    simp only [gd_t]
    rw [nm_u, cl_nI (by omega), e1, nI_m1 hj, nm_u, nm_u, nm_u, nm_u]
    simp (disch := omega) only [wT_n, wT_ss]
  · unfold m_X6_mends
    rw [s_at0, bnd_s]
    simp only [nI_p6, nI_p3]
    rw [ib_nI (by omega) (by decide), gd_t, cl_nI (by omega), nm_u, sS_w0 TM, bnd_s]
    simp only [nI_p3]
    rw [ib_nI (by omega) (by decide), gd_t, cl_nI (by omega), nm_u, sS_w]
    rw [s_spare (p := p) hn hi (by rw [sS_1, up_n _ _ (by omega), up_n _ _ (by omega)]; exact e0), bnd_s, ib_nI (by omega) (by decide), gd_t, nm_u, gd_t, nm_u, cl_nI (by omega), sS_1, up_n _ _ (by omega), up_n _ _ (by omega), ep, nI_m1 hj, sS_w]
    rw [s_spare (p := p) hn hi (by rw [sS_1, up_n _ _ (by omega), up_n _ _ (by omega), up_n _ _ (by omega)]; exact e0), bnd_s, ib_nI (by omega) (by decide), gd_t, nm_u, cl_nI (by omega), sS_1, up_s]
  · refine iv_ch h ?_ ?_ ?_ ?_ ?_ ?_ ?_
    · simp (disch := omega) only [wT_n]
    · intro q hq
      by_cases hpq : q = p
      · subst hpq
        exact ⟨j - 1, by omega, by simp (disch := omega) only [wT_n, wT_ss]⟩
      · obtain ⟨j2, a1, a2⟩ := iv_str h q hq
        exact ⟨j2, a1, by simp (disch := omega) only [wT_n, wT_sn]; exact a2⟩
    · intro c hc; simp (disch := omega) only [wT_n]
    · intro c hc; simp (disch := omega) only [wT_n]
    · intro c hc; simp (disch := omega) only [wT_n]
    · intro c hc hne
      have hci : c ≠ i := fun e => hne (by rw [e]; exact e10)
      rw [wT_sn _ _ _ hci]
      simp (disch := omega) only [wT_n]
      exact iv_by2 h c hc hne
    · exact iv_vv h (fun c hc => by simp (disch := omega) only [wT_n]) (by simp (disch := omega) only [wT_n])
  · have r1 := rs_wf hn hR hi (f := 6) (by decide) 0
    have r2 := rs_wf hn r1 hi (f := 3) (by decide) 0
    have r3 := rs_w1 hn r2 hp (nI (j - 1))
    have e : wT (wT (wT T 1 p (nI (j - 1))) 6 i 0) 9 i 0 = wT (wT (wT T (3 + 6) i 0) (3 + 3) i 0) 1 p (nI (j - 1)) := by
      rw [wT_comm _ _ _ _ _ (show (1 : Nat) ≠ 6 by decide), wT_comm _ _ _ _ _ (show (1 : Nat) ≠ 9 by decide), wT_comm _ _ _ _ _ (show (6 : Nat) ≠ 9 by decide)]
    rw [e]
    exact r3
  · intro x hx
    rw [up_n _ _ (by omega), up_n _ _ (by omega), up_n _ _ (by omega)]
theorem a_stamp (h : Iv T n) (hR : RS T (TM 1) 0 n) {a : Int32} (h0 : fE T n a = 0) : ACT T TM n (m_X4_crush a T) (m_X6_stamps a TM) := by
  have hn := iv_n h
  obtain ⟨i, hi, rfl, h9⟩ := fE_0 hn h0
  have e4 := rs_f4 hR i hi
  have r1 : TM 1 1 = T 0 11 := hR.2.1
  have e10 : T 10 i = (-5) := by
    by_cases e : T 10 i = (-5)
    · exact e
    · have := iv_by2 h i hi e
      rw [h9] at this
      exact absurd this (by decide)
  have i1 : ib 1 2048 = true := by decide
  have t1 : (1 : Int32).toNatClampNeg = 1 := by decide
  refine ⟨T 7 i, wT (wT (wT (wT T 7 i 0) 8 i (-5)) 9 i 2) 0 11 (T 0 11 + T 7 i), smS (upd (TM 1) 1 (T 0 11 + T 7 i)) (16 + 8 * i) (-5), s_crush (by omega), ?_, ?_, ?_, ?_⟩
  · unfold m_X6_stamps
    rw [s_at0, bnd_s, i1, t1]
    simp only [nI_p4, gd_t]
    rw [ib_nI (by omega) (by decide), gd_t, nm_u, cl_nI (by omega), e4, nm_u, r1, nm_u, bnd_s, sS_w0, s_smashes _ (by omega), bnd_s]
  · refine iv_ch h ?_ ?_ ?_ ?_ ?_ ?_ ?_
    · rw [wT_sn _ _ _ (by decide)]; simp (disch := omega) only [wT_n]
    · intro q hq
      simp (disch := omega) only [wT_n]
      exact iv_str h q hq
    · intro c hc; simp (disch := omega) only [wT_n]
    · intro c hc; simp (disch := omega) only [wT_n]
    · intro c hc; simp (disch := omega) only [wT_n]
    · intro c hc hne
      have hci : c ≠ i := fun e => hne (by rw [e]; exact e10)
      rw [wT_n _ _ _ _ (by decide), wT_sn _ _ _ hci]
      simp (disch := omega) only [wT_n]
      exact iv_by2 h c hc hne
    · obtain ⟨v, l, h1, h2, h3⟩ := iv_v h
      have k1 := sm_set (v := v) (w := fun c => if c = i then 0 else v c) (g := i) hi (fun c hc hne => by simp [hne])
      refine ⟨fun c => if c = i then 0 else v c, l + v i, fun c hc => ?_, ?_, ?_⟩
      · by_cases hci : c = i
        · subst hci
          simp (disch := omega) only [wT_n, wT_ss]
          simp
          rfl
        · simp (disch := omega) only [wT_n, wT_sn]
          simp [hci, h1 c hc]
      · rw [wT_ss, h2, h1 i hi, nI_add]
      · simp at k1
        omega
  · unfold smS
    have q1 := rs_w11 hn hR (T 0 11 + T 7 i)
    have q2 := rs_wf hn q1 hi (f := 6) (by decide) 2
    have q3 := rs_wf hn q2 hi (f := 4) (by decide) 0
    have q4 := rs_wf hn q3 hi (f := 5) (by decide) (-5)
    have q5 := rs_same q4 hi (f := 7) (by decide) (v := (-5)) (by simp (disch := omega) only [wT_n]; exact e10)
    have e : wT (wT (wT (wT T 7 i 0) 8 i (-5)) 9 i 2) 0 11 (T 0 11 + T 7 i) = wT (wT (wT (wT T 0 11 (T 0 11 + T 7 i)) (3 + 6) i 2) (3 + 4) i 0) (3 + 5) i (-5) := by
      rw [wT_comm _ _ _ _ _ (show (9 : Nat) ≠ 0 by decide), wT_comm _ _ _ _ _ (show (8 : Nat) ≠ 0 by decide), wT_comm _ _ _ _ _ (show (7 : Nat) ≠ 0 by decide), wT_comm _ _ _ _ _ (show (8 : Nat) ≠ 9 by decide), wT_comm _ _ _ _ _ (show (7 : Nat) ≠ 9 by decide)]
    rw [e]
    exact q5
  · intro x hx
    unfold smS
    simp (disch := omega) only [up_n]
theorem a_hit (h : Iv T n) (hR : RS T (TM 1) 0 n) {a b : Nat} (ha : a < n) (hb : b < n) (hab : a ≠ b) (h9a : T 9 a = 0) (h9b : T 9 b = 0) (w : Int32) : ACT T TM n (m_X4_hit (nI a) (nI b) w T) (m_X6_strikes 0 (nI a) (nI b) w TM) := by
  have hn := iv_n h
  exact ⟨_, _, _, s_hit h ha hb hab h9a h9b w, s_strikes (o := 0) h hR (by decide) ha hb hab w, hit_Iv h ha hb hab h9a h9b w, hit_RS h hR ha hb hab h9a h9b w, fun x hx => sK_out (by omega) (by omega) hab w (by omega)⟩
end ACTS
