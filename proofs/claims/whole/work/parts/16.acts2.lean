/-! MORE ACTIONS: thread, give, boast, doubt -/
section ACTS2
variable {T T' TM : Tm} {s : Nat → Int32} {n : Nat}
def adT (T : Tm) (n p : Nat) (x y z : Int32) : Tm := wT (wT (wT (wT (wT (wT (wT (wT (wT (wT T 1 p z) 3 n x) 4 n y) 5 n 0) 6 n 0) 7 n 0) 8 n (-5)) 9 n 0) 10 n (-5)) 0 10 (nI (n + 1))
def adS (s : Nat → Int32) (n : Nat) (x y : Int32) : Nat → Int32 := upd (upd (upd (upd (upd (upd (upd (upd s (16 + 8 * n + 0) x) (16 + 8 * n + 1) y) (16 + 8 * n + 2) 0) (16 + 8 * n + 3) 0) (16 + 8 * n + 4) 0) (16 + 8 * n + 5) (-5)) (16 + 8 * n + 6) 0) (16 + 8 * n + 7) (-5)
theorem s_add (hN : T 0 10 = nI n) (hn : n < 30) {p j : Nat} (hp : p < 6) (hj : 1 ≤ j) (hj2 : j ≤ 20) (e1 : T 1 p = nI j) (y : Int32) : m_X4_addConker (nI p) y T = some (nI n, adT T n p (nI p) y (nI (j - 1))) := by
  unfold m_X4_addConker adT
  rw [nm_u, hN, ib_nI hp (by decide), ib_nI hn (by decide), cl_nI (show p < 2 ^ 31 by omega), cl_nI (show n < 2 ^ 31 by omega)]
  simp only [gd_t]
  rw [nm_u, e1, nI_m1 hj, nm_u, nm_u, nm_u, nm_u, nm_u, nm_u, nm_u, nm_u, nm_u, nm_u, nm_u]
  simp (disch := omega) only [wT_n]
  rw [hN, nI_p1]
theorem fu9 : fu = 991 + 1 + 1 + 1 + 1 + 1 + 1 + 1 + 1 + 1 := rfl
theorem l_123 (κ : Int32 → Int32 → Int32 → Int32 → Tm → Option (Int32 × Tm)) (x y v : Int32) {q k : Nat} (h : q + k < 2048) (s : Nat → Int32) : m_X6_thread_123 κ x y (nI q) (nI k) (nI q + nI k) v (sS TM s) = κ x y (nI q) (nI (k + 1)) (sS TM (upd s (q + k) v)) := by
  unfold m_X6_thread_123
  rw [nI_add, ib_nI h (by decide), gd_t, nm_u, cl_nI (by omega), sS_w, nI_p1]
theorem s_addM (hR : RS T (TM 1) 0 n) (hn : n < 30) {p j : Nat} (hp : p < 6) (hj : 1 ≤ j) (hj2 : j ≤ 20) (e1 : T 1 p = nI j) (y : Int32) :
    m_X6_thread_70 fu (nI p) y (nI (16 + 8 * n)) 0 TM = some (nI n, sS TM (upd (upd (adS (TM 1) n (nI p) y) (4 + 2 * p) (nI (j - 1))) 0 (nI (n + 1)))) := by
  have ep := (rsp1 hR hp).trans e1
  have e0 : TM 1 0 = nI n := hR.1
  have h0 : (0 : Int32) = nI 0 := rfl
  rw [fu9]
  conv => lhs; rw [h0, ← sS_u TM]
  rw [m_X6_thread_70.eq_2, if_neg (by decide), if_pos (by decide), l_123 _ _ _ _ (by omega)]
  rw [m_X6_thread_70.eq_2, if_neg (by decide), if_neg (by decide), if_pos (by decide), l_123 _ _ _ _ (by omega)]
  rw [m_X6_thread_70.eq_2, if_neg (by decide), if_neg (by decide), if_neg (by decide), if_neg (by decide), if_neg (by decide), l_123 _ _ _ _ (by omega)]
  rw [m_X6_thread_70.eq_2, if_neg (by decide), if_neg (by decide), if_neg (by decide), if_neg (by decide), if_neg (by decide), l_123 _ _ _ _ (by omega)]
  rw [m_X6_thread_70.eq_2, if_neg (by decide), if_neg (by decide), if_neg (by decide), if_neg (by decide), if_neg (by decide), l_123 _ _ _ _ (by omega)]
  rw [m_X6_thread_70.eq_2, if_neg (by decide), if_neg (by decide), if_neg (by decide), if_pos (by decide)]
  unfold m_X6_thread_117
  rw [l_123 _ _ _ _ (by omega)]
  rw [m_X6_thread_70.eq_2, if_neg (by decide), if_neg (by decide), if_neg (by decide), if_neg (by decide), if_neg (by decide), l_123 _ _ _ _ (by omega)]
  rw [m_X6_thread_70.eq_2, if_neg (by decide), if_neg (by decide), if_neg (by decide), if_neg (by decide), if_pos (by decide)]
  unfold m_X6_thread_117
  rw [l_123 _ _ _ _ (by omega)]
  rw [m_X6_thread_70.eq_2, if_pos (by decide), i_pl, ib_nI (by omega) (by decide), ib0 (by decide) (by decide), cl_nI (by omega), cl0]
  simp only [gd_t]
  have ea : adS (TM 1) n (nI p) y = upd (upd (upd (upd (upd (upd (upd (upd (TM 1) (16 + 8 * n + 0) (nI p)) (16 + 8 * n + (0 + 1)) y) (16 + 8 * n + (0 + 1 + 1)) 0) (16 + 8 * n + (0 + 1 + 1 + 1)) 0) (16 + 8 * n + (0 + 1 + 1 + 1 + 1)) 0) (16 + 8 * n + (0 + 1 + 1 + 1 + 1 + 1)) (-5)) (16 + 8 * n + (0 + 1 + 1 + 1 + 1 + 1 + 1)) 0) (16 + 8 * n + (0 + 1 + 1 + 1 + 1 + 1 + 1 + 1)) (-5) := rfl
  rw [← ea]
  have a4 : adS (TM 1) n (nI p) y (4 + 2 * p) = nI j := by
    unfold adS
    simp (disch := omega) only [up_n]
    exact ep
  have a0 : adS (TM 1) n (nI p) y 0 = nI n := by
    unfold adS
    simp (disch := omega) only [up_n]
    exact e0
  rw [nm_u, sS_1, a4, nI_m1 hj, nm_u, sS_w, nm_u, sS_1, up_n _ _ (by omega), a0, nI_p1, nm_u, sS_w, nm_u, sS_1, up_s, nI_m1 (by omega)]
  rfl
theorem a_thread (h : Iv T n) (hR : RS T (TM 1) 0 n) (hn : n < 30) {p j k : Nat} (hp : p < 6) (hj : 1 ≤ j) (hj2 : j ≤ 20) (e1 : T 1 p = nI j) (hk : 1 ≤ k) (hk2 : k ≤ 9) : ACT T TM (n + 1) (m_X4_addConker (nI p) (nI k) T) (m_X6_thread_70 fu (nI p) (nI k) (nI (16 + 8 * n)) 0 TM) := by
  have hc : cnt (nby (adT T n p (nI p) (nI k) (nI (j - 1)))) (n + 1) = cnt (nby T) n := by
    rw [cnt]
    have e : nby (adT T n p (nI p) (nI k) (nI (j - 1))) n = false := by unfold nby adT; simp (disch := omega) only [wT_n, wT_ss]; rfl
    rw [e]
    rw [cnt_congr (Q := nby T) (fun c hc => by unfold nby adT; simp (disch := omega) only [wT_n, wT_sn])]
    rfl
  refine ⟨_, _, _, s_add (iv_N h) hn hp hj hj2 e1 _, s_addM hR hn hp hj hj2 e1 _, ?_, ?_, ?_⟩
  · refine ⟨by omega, ?_, ?_, ?_, ?_, ?_, ?_, ?_, ?_⟩
    · unfold adT; rw [wT_ss]
    · intro q hq
      by_cases hqp : q = p
      · subst hqp
        exact ⟨j - 1, by omega, by unfold adT; simp (disch := omega) only [wT_n, wT_ss]⟩
      · obtain ⟨j2, a1, a2⟩ := iv_str h q hq
        exact ⟨j2, a1, by unfold adT; simp (disch := omega) only [wT_n, wT_sn]; exact a2⟩
    · intro c hc
      by_cases hcn : c = n
      · subst hcn
        exact ⟨p, hp, by unfold adT; simp (disch := omega) only [wT_n, wT_ss]⟩
      · obtain ⟨j2, a1, a2⟩ := iv_own h c (by omega)
        exact ⟨j2, a1, by unfold adT; simp (disch := omega) only [wT_n, wT_sn]; exact a2⟩
    · intro c hc
      by_cases hcn : c = n
      · subst hcn
        exact ⟨k, hk, hk2, by unfold adT; simp (disch := omega) only [wT_n, wT_ss]⟩
      · obtain ⟨j2, a1, a2, a3⟩ := iv_hard h c (by omega)
        exact ⟨j2, a1, a2, by unfold adT; simp (disch := omega) only [wT_n, wT_sn]; exact a3⟩
    · intro c hc
      by_cases hcn : c = n
      · subst hcn
        exact Or.inl (by unfold adT; simp (disch := omega) only [wT_n, wT_ss])
      · have e : adT T n p (nI p) (nI k) (nI (j - 1)) 10 c = T 10 c := by unfold adT; simp (disch := omega) only [wT_n, wT_sn]
        rw [e]
        rcases iv_by h c (by omega) with h1 | ⟨j2, h2, h3⟩
        · exact Or.inl h1
        · exact Or.inr ⟨j2, by omega, h3⟩
    · intro c hc hne
      by_cases hcn : c = n
      · subst hcn
        exact absurd (by unfold adT; simp (disch := omega) only [wT_n, wT_ss]) hne
      · have e : adT T n p (nI p) (nI k) (nI (j - 1)) 10 c = T 10 c := by unfold adT; simp (disch := omega) only [wT_n, wT_sn]
        have e9 : adT T n p (nI p) (nI k) (nI (j - 1)) 9 c = T 9 c := by unfold adT; simp (disch := omega) only [wT_n, wT_sn]
        rw [e] at hne
        rw [e9]
        exact iv_by2 h c (by omega) hne
    · obtain ⟨v, l, h1, h2, h3⟩ := iv_v h
      rw [hc]
      refine ⟨fun c => if c = n then 0 else v c, l, fun c hc => ?_, ?_, ?_⟩
      · by_cases hcn : c = n
        · subst hcn
          unfold adT
          simp (disch := omega) only [wT_n, wT_ss]
          simp
          rfl
        · unfold adT
          simp (disch := omega) only [wT_n, wT_sn]
          simp [hcn, h1 c (by omega)]
      · unfold adT
        rw [wT_sn _ _ _ (by decide)]
        simp (disch := omega) only [wT_n]
        exact h2
      · rw [sm, sm_congr (w := v) (fun i hi => by simp [show ¬ i = n by omega])]
        simp
        exact h3
    · obtain ⟨d, h1, h2⟩ := iv_d h
      rw [hc]
      refine ⟨fun c => if c = n then 0 else d c, fun c hc => ?_, fun c i hc hi he => ?_⟩
      · show (if c = n then 0 else d c) ≤ _
        split
        · omega
        · exact h1 c (by omega)
      · by_cases hcn : c = n
        · subst hcn
          have e : adT T c p (nI p) (nI k) (nI (j - 1)) 10 c = (-5) := by unfold adT; simp (disch := omega) only [wT_n, wT_ss]
          rw [e] at he
          exact absurd he.symm (nI_2 (by omega))
        · have e : adT T n p (nI p) (nI k) (nI (j - 1)) 10 c = T 10 c := by unfold adT; simp (disch := omega) only [wT_n, wT_sn]
          rw [e] at he
          rcases iv_by h c (by omega) with h3 | ⟨j2, h4, h5⟩
          · rw [h3] at he
            exact absurd he.symm (nI_2 (by omega))
          · rw [h5] at he
            have := nI_inj (by omega) (by omega) he
            subst this
            have h6 := h2 c j2 (by omega) h4 h5
            have hj2n : ¬ j2 = n := by omega
            simp [hcn, hj2n, h6]
  · obtain ⟨r0, r1, r2, r3, rp, rf⟩ := hR
    refine ⟨?_, ?_, ?_, ?_, fun q hq => ⟨?_, ?_⟩, fun c hc f hf => ?_⟩
    · exact up_s _ 0 _
    · unfold adS adT
      simp (disch := omega) only [up_n, wT_n]
      rw [wT_sn _ _ _ (by decide)]
      simp (disch := omega) only [wT_n]
      exact r1
    · unfold adS adT
      simp (disch := omega) only [up_n, wT_n]
      rw [wT_sn _ _ _ (by decide)]
      simp (disch := omega) only [wT_n]
      exact r2
    · rw [hc]
      unfold adS
      simp (disch := omega) only [up_n]
      exact r3
    · have e : 0 + 4 + 2 * q = 4 + 2 * q := by omega
      rw [e]
      have r := (rp q hq).1
      rw [e] at r
      by_cases hqp : q = p
      · subst hqp
        unfold adT
        rw [up_n _ _ (by omega), up_s]
        simp (disch := omega) only [wT_n, wT_ss]
      · unfold adS adT
        simp (disch := omega) only [up_n, wT_n, wT_sn]
        exact r
    · have e : 0 + 5 + 2 * q = 5 + 2 * q := by omega
      rw [e]
      have r := (rp q hq).2
      rw [e] at r
      unfold adS adT
      simp (disch := omega) only [up_n, wT_n]
      exact r
    · have e : 0 + 16 + 8 * c + f = 16 + 8 * c + f := by omega
      rw [e]
      by_cases hcn : c = n
      · subst hcn
        have hfc : f = 0 ∨ f = 1 ∨ f = 2 ∨ f = 3 ∨ f = 4 ∨ f = 5 ∨ f = 6 ∨ f = 7 := by omega
        rw [up_n _ _ (by omega), up_n _ _ (by omega)]
        unfold adS adT
        rcases hfc with rfl | rfl | rfl | rfl | rfl | rfl | rfl | rfl <;> simp (disch := omega) only [up_n, up_s, wT_n, wT_ss]
      · have r := rf c (by omega) f hf
        rw [e] at r
        have hfc : f = 0 ∨ f = 1 ∨ f = 2 ∨ f = 3 ∨ f = 4 ∨ f = 5 ∨ f = 6 ∨ f = 7 := by omega
        rw [up_n _ _ (by omega), up_n _ _ (by omega)]
        have e2 : adS (TM 1) n (nI p) (nI k) (16 + 8 * c + f) = TM 1 (16 + 8 * c + f) := by
          unfold adS
          simp (disch := omega) only [up_n]
        rw [e2, r]
        unfold adT
        rcases hfc with rfl | rfl | rfl | rfl | rfl | rfl | rfl | rfl <;> simp (disch := omega) only [wT_n, wT_sn]
  · intro x hx
    rw [up_n _ _ (by omega), up_n _ _ (by omega)]
    unfold adS
    simp (disch := omega) only [up_n]
/-- a boast is set; a doubt settles one -/
theorem iv_8 (h : Iv T n) (a : Nat) (v : Int32) : Iv (wT T 8 a v) n := by
  refine iv_ch h (by rw [wT_n _ _ _ _ (by decide)]) (fun p hp => by rw [wT_n _ _ _ _ (by decide)]; exact iv_str h p hp) (fun c hc => by rw [wT_n _ _ _ _ (by decide)]) (fun c hc => by rw [wT_n _ _ _ _ (by decide)]) (fun c hc => by rw [wT_n _ _ _ _ (by decide)]) (fun c hc hne => by rw [wT_n _ _ _ _ (by decide)]; exact iv_by2 h c hc hne) (iv_vv h (fun c hc => by rw [wT_n _ _ _ _ (by decide)]) (by rw [wT_n _ _ _ _ (by decide)]))
theorem iv_2 (h : Iv T n) (a : Nat) (v : Int32) : Iv (wT T 2 a v) n := by
  refine iv_ch h (by rw [wT_n _ _ _ _ (by decide)]) (fun p hp => by rw [wT_n _ _ _ _ (by decide)]; exact iv_str h p hp) (fun c hc => by rw [wT_n _ _ _ _ (by decide)]) (fun c hc => by rw [wT_n _ _ _ _ (by decide)]) (fun c hc => by rw [wT_n _ _ _ _ (by decide)]) (fun c hc hne => by rw [wT_n _ _ _ _ (by decide)]; exact iv_by2 h c hc hne) (iv_vv h (fun c hc => by rw [wT_n _ _ _ _ (by decide)]) (by rw [wT_n _ _ _ _ (by decide)]))
theorem s_sb25 {a p : Nat} (ha : a < 30) (hp : p < 6) : m_X4_settleBoast_25 (nI a) (nI p) T = some (nI p, wT (wT T 2 p (T 2 p + 1)) 8 a (-5)) := by
  unfold m_X4_settleBoast_25
  simp (disch := omega) only [ib_nI, gd_t, nm_u, cl_nI]
theorem s_db85 (hR : RS T (TM 1) 0 n) {a p : Nat} (ha : a < 30) (hp : p < 6) : m_X6_doubt_85 (nI (16 + 8 * a)) (nI p) TM = some (nI p, sS TM (upd (upd (TM 1) (5 + 2 * p) (T 2 p + 1)) (16 + 8 * a + 5) (-5))) := by
  have e := rsp2 hR hp
  unfold m_X6_doubt_85
  rw [i_pl, i_pl1, nI_p5, ib_nI (by omega) (by decide), ib_nI (by omega) (by decide)]
  simp only [gd_t]
  rw [nm_u, cl_nI (by omega), cl_nI (by omega), e, nm_u, sS_w0 TM, nm_u, sS_w]
theorem a_doubt (h : Iv T n) (hR : RS T (TM 1) 0 n) {a p : Nat} (ha : a < n) (hp : p < 6) : ACT T TM n (m_X4_settleBoast (nI p) (nI a) T) (gd (ib (nI (16 + 8 * a) + 5) 2048) <| nm (TM 1 ((nI (16 + 8 * a) + 5).toNatClampNeg)) fun v13 =>
          gd (ib (nI (16 + 8 * a) + 4) 2048) <| nm (TM 1 ((nI (16 + 8 * a) + 4).toNatClampNeg)) fun v14 =>
          if v13 ≤ v14 then
            m_X6_doubt_85 (nI (16 + 8 * a)) (nI p) TM
          else
            gd (ib (nI (16 + 8 * a)) 2048) <| nm (TM 1 (nI (16 + 8 * a)).toNatClampNeg) fun v16 =>
            m_X6_doubt_85 (nI (16 + 8 * a)) v16 TM) := by
  have hn := iv_n h
  have e4 := rs_f4 hR a ha
  have e5 := rs_f5 hR a ha
  have e0 := rs_f0 hR a ha
  obtain ⟨q, hq, eq⟩ := iv_own h a ha
  have fin : ∀ z, z < 6 → ACT T TM n (m_X4_settleBoast_25 (nI a) (nI z) T) (m_X6_doubt_85 (nI (16 + 8 * a)) (nI z) TM) := by
    intro z hz
    refine ⟨_, _, _, s_sb25 (by omega) hz, s_db85 hR (by omega) hz, iv_8 (iv_2 h _ _) _ _, rs_wf hn (rs_w2 hn hR hz _) ha (f := 5) (by decide) _, fun x hx => ?_⟩
    rw [up_n _ _ (by omega), up_n _ _ (by omega)]
  unfold m_X4_settleBoast
  simp (disch := omega) only [nI_p4, nI_p5, ib_nI, gd_t, nm_u, cl_nI, e4, e5, e0, eq]
  by_cases hc : T 8 a ≤ T 7 a
  · rw [if_pos hc, if_pos hc]
    exact fin p hp
  · rw [if_neg hc, if_neg hc]
    exact fin q hq
end ACTS2
