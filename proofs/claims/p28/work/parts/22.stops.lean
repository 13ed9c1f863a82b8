/-! THE ACTIONS on a state keep the invariant -/
section STOPS
variable {T : Tm} {n s : Nat}
set_option maxHeartbeats 4000000 in
theorem st_thread (h : St T n s) (hn : n < 30) {p j k : Nat} (hp : p < 6) (hj : 1 ≤ j) (hj2 : j ≤ 20) (hk : 1 ≤ k) (hk2 : k ≤ 9) : St (adT T n p (nI p) (nI k) (nI (j - 1))) (n + 1) s := by
  obtain ⟨hI, hE, hJ, hs⟩ := h
  have hc : cnt (nby (adT T n p (nI p) (nI k) (nI (j - 1)))) (n + 1) = cnt (nby T) n := by
    rw [cnt]
    have e : nby (adT T n p (nI p) (nI k) (nI (j - 1))) n = false := by unfold nby adT; simp (disch := omega) only [wT_n, wT_ss]; rfl
    rw [e]
    rw [cnt_congr (Q := nby T) (fun c hc => by unfold nby adT; simp (disch := omega) only [wT_n, wT_sn])]
    rfl
  refine ⟨?_, ?_, ?_, ?_⟩
  · refine ⟨by omega, ?_, ?_, ?_, ?_, ?_, ?_, ?_, ?_⟩
    · unfold adT; rw [wT_ss]
    · intro q hq
      by_cases hqp : q = p
      · subst hqp
        exact ⟨j - 1, by omega, by unfold adT; simp (disch := omega) only [wT_n, wT_ss]⟩
      · obtain ⟨j2, a1, a2⟩ := iv_str hI q hq
        exact ⟨j2, a1, by unfold adT; simp (disch := omega) only [wT_n, wT_sn]; exact a2⟩
    · intro c hc
      by_cases hcn : c = n
      · subst hcn
        exact ⟨p, hp, by unfold adT; simp (disch := omega) only [wT_n, wT_ss]⟩
      · obtain ⟨j2, a1, a2⟩ := iv_own hI c (by omega)
        exact ⟨j2, a1, by unfold adT; simp (disch := omega) only [wT_n, wT_sn]; exact a2⟩
    · intro c hc
      by_cases hcn : c = n
      · subst hcn
        exact ⟨k, hk, hk2, by unfold adT; simp (disch := omega) only [wT_n, wT_ss]⟩
      · obtain ⟨j2, a1, a2, a3⟩ := iv_hard hI c (by omega)
        exact ⟨j2, a1, a2, by unfold adT; simp (disch := omega) only [wT_n, wT_sn]; exact a3⟩
    · intro c hc
      by_cases hcn : c = n
      · subst hcn
        exact Or.inl (by unfold adT; simp (disch := omega) only [wT_n, wT_ss])
      · have e : adT T n p (nI p) (nI k) (nI (j - 1)) 10 c = T 10 c := by unfold adT; simp (disch := omega) only [wT_n, wT_sn]
        rw [e]
        rcases iv_by hI c (by omega) with h1 | ⟨j2, h2, h3⟩
        · exact Or.inl h1
        · exact Or.inr ⟨j2, by omega, h3⟩
    · intro c hc hne
      by_cases hcn : c = n
      · subst hcn
        exact absurd (by unfold adT; simp (disch := omega) only [wT_n, wT_ss]) hne
      · have e : adT T n p (nI p) (nI k) (nI (j - 1)) 10 c = T 10 c := by unfold adT; simp (disch := omega) only [wT_n, wT_sn]
        have e9 : adT T n p (nI p) (nI k) (nI (j - 1)) 9 c = T 9 c := by unfold adT; simp (disch := omega) only [wT_n, wT_sn]
        rw [e] at hne
        rw [e9]
        exact iv_by2 hI c (by omega) hne
    · obtain ⟨v, l, h1, h2, h3⟩ := iv_v hI
      rw [hc]
      refine ⟨fun c => if c = n then 0 else v c, l, fun c hc => ?_, ?_, ?_⟩
      · by_cases hcn : c = n
        · subst hcn
          unfold adT
          simp (disch := omega) only [wT_n, wT_ss]
          simp
          rfl
        · unfold adT
          simp (disch := omega) only [wT_n, wT_sn]
          simp [hcn, h1 c (by omega)]
      · unfold adT
        rw [wT_sn _ _ _ (by decide)]
        simp (disch := omega) only [wT_n]
        exact h2
      · rw [sm, sm_congr (w := v) (fun i hi => by simp [show ¬ i = n by omega])]
        simp
        exact h3
    · obtain ⟨d, h1, h2⟩ := iv_d hI
      rw [hc]
      refine ⟨fun c => if c = n then 0 else d c, fun c hc => ?_, fun c i hc hi he => ?_⟩
      · show (if c = n then 0 else d c) ≤ _
        split
        · omega
        · exact h1 c (by omega)
      · by_cases hcn : c = n
        · subst hcn
          have e : adT T c p (nI p) (nI k) (nI (j - 1)) 10 c = (-5) := by unfold adT; simp (disch := omega) only [wT_n, wT_ss]
          rw [e] at he
          exact absurd he.symm (nI_2 (by omega))
        · have e : adT T n p (nI p) (nI k) (nI (j - 1)) 10 c = T 10 c := by unfold adT; simp (disch := omega) only [wT_n, wT_sn]
          rw [e] at he
          rcases iv_by hI c (by omega) with h3 | ⟨j2, h4, h5⟩
          · rw [h3] at he
            exact absurd he.symm (nI_2 (by omega))
          · rw [h5] at he
            have := nI_inj (by omega) (by omega) he
            subst this
            have h6 := h2 c j2 (by omega) h4 h5
            have hj2n : ¬ j2 = n := by omega
            simp [hcn, hj2n, h6]
  · intro c hc
    by_cases hcn : c = n
    · subst hcn
      have f5 : adT T c p (nI p) (nI k) (nI (j - 1)) 5 c = nI 0 := by unfold adT; simp (disch := omega) only [wT_n, wT_ss]; rfl
      have f6 : adT T c p (nI p) (nI k) (nI (j - 1)) 6 c = nI 0 := by unfold adT; simp (disch := omega) only [wT_n, wT_ss]; rfl
      have f8 : adT T c p (nI p) (nI k) (nI (j - 1)) 8 c = (-5) := by unfold adT; simp (disch := omega) only [wT_n, wT_ss]
      have f9 : adT T c p (nI p) (nI k) (nI (j - 1)) 9 c = nI 0 := by unfold adT; simp (disch := omega) only [wT_n, wT_ss]; rfl
      have f10 : adT T c p (nI p) (nI k) (nI (j - 1)) 10 c = (-5) := by unfold adT; simp (disch := omega) only [wT_n, wT_ss]
      refine ⟨⟨0, by decide, f9⟩, ⟨0, by decide, f5, fun _ => by decide⟩, ⟨0, by decide, f6, fun _ => by decide, fun he => ?_⟩, fun he => ?_, Or.inl f8, fun i hi he => ?_⟩
      · rw [f9] at he; exact absurd he (by decide)
      · rw [f9] at he; exact absurd he (by decide)
      · rw [f10] at he; exact absurd he.symm (nI_2 (by omega))
    · have hc' : c < n := by omega
      have g : ∀ q, 3 ≤ q → q ≤ 10 → ∀ i, i < n → adT T n p (nI p) (nI k) (nI (j - 1)) q i = T q i := by
        intro q q1 q2 i hi
        have qc : q = 3 ∨ q = 4 ∨ q = 5 ∨ q = 6 ∨ q = 7 ∨ q = 8 ∨ q = 9 ∨ q = 10 := by omega
        unfold adT
        rcases qc with rfl | rfl | rfl | rfl | rfl | rfl | rfl | rfl <;> simp (disch := omega) only [wT_n, wT_sn]
      obtain ⟨e1, e2, e3, e4, e5, e6⟩ := hE c hc'
      have g9 := g 9 (by decide) (by decide) c hc'
      have g5 := g 5 (by decide) (by decide) c hc'
      have g6 := g 6 (by decide) (by decide) c hc'
      have g7 := g 7 (by decide) (by decide) c hc'
      have g8 := g 8 (by decide) (by decide) c hc'
      have g10 := g 10 (by decide) (by decide) c hc'
      refine ⟨by rw [g9]; exact e1, by rw [g9, g5]; exact e2, by rw [g9, g6]; exact e3, by rw [g9, g7, g8]; exact e4, by rw [g8]; exact e5, fun i hi he => ?_⟩
      rw [g10] at he
      rcases iv_by hI c hc' with h3 | ⟨j2, h4, h5⟩
      · rw [h3] at he
        exact absurd he.symm (nI_2 (by omega))
      · rw [h5] at he
        have := nI_inj (by omega) (by omega) he
        subst this
        rw [g 3 (by decide) (by decide) j2 h4, g 3 (by decide) (by decide) c hc', g5]
        exact e6 j2 h4 h5
  · unfold adT
    have r : ∀ q, 3 ≤ q → q ≤ 10 → rng q n := fun q a b => rng_f a b hn
    exact jk_wT (jk_wT (jk_wT (jk_wT (jk_wT (jk_wT (jk_wT (jk_wT (jk_wT (jk_wT hJ (rng_p (Or.inl rfl) hp) _) (r 3 (by decide) (by decide)) _) (r 4 (by decide) (by decide)) _) (r 5 (by decide) (by decide)) _) (r 6 (by decide) (by decide)) _) (r 7 (by decide) (by decide)) _) (r 8 (by decide) (by decide)) _) (r 9 (by decide) (by decide)) _) (r 10 (by decide) (by decide)) _) (rng_0 (Or.inl rfl)) _
  · unfold adT
    rw [wT_sn _ _ _ (by decide)]
    simp (disch := omega) only [wT_n]
    exact hs
theorem st_give (h : St T n s) {p j : Nat} (hp : p < 6) (hj : j ≤ 20) : St (wT T 1 p (nI j)) n s := by
  obtain ⟨hI, hE, hJ, hs⟩ := h
  refine ⟨?_, fun c hc => ?_, jk_wT hJ (rng_p (Or.inl rfl) hp) _, by rw [wT_n _ _ _ _ (by decide)]; exact hs⟩
  · refine iv_ch hI ?_ ?_ ?_ ?_ ?_ ?_ ?_
    · simp (disch := omega) only [wT_n]
    · intro q hq
      by_cases hpq : q = p
      · subst hpq
        exact ⟨j, hj, by simp (disch := omega) only [wT_ss]⟩
      · obtain ⟨j2, a1, a2⟩ := iv_str hI q hq
        exact ⟨j2, a1, by simp (disch := omega) only [wT_sn]; exact a2⟩
    · intro c hc; simp (disch := omega) only [wT_n]
    · intro c hc; simp (disch := omega) only [wT_n]
    · intro c hc; simp (disch := omega) only [wT_n]
    · intro c hc hne
      simp (disch := omega) only [wT_n]
      exact iv_by2 hI c hc hne
    · exact iv_vv hI (fun c hc => by simp (disch := omega) only [wT_n]) (by simp (disch := omega) only [wT_n])
  · refine ec_same (T := T) (fun c _ => by simp (disch := omega) only [wT_n]) hc ?_ ?_ ?_ ?_ ?_ ?_ (hE c hc)
    all_goals simp (disch := omega) only [wT_n]
set_option maxHeartbeats 1000000 in
theorem st_stamp (h : St T n s) {i : Nat} (hi : i < n) (h9 : T 9 i = 1) : St (wT (wT (wT (wT T 7 i 0) 8 i (-5)) 9 i 2) 0 11 (T 0 11 + T 7 i)) n s := by
  obtain ⟨hI, hE, hJ, hs⟩ := h
  have hn := iv_n hI
  have e10 : T 10 i = (-5) := by
    by_cases e : T 10 i = (-5)
    · exact e
    · have := iv_by2 hI i hi e
      rw [h9] at this
      exact absurd this (by decide)
  refine ⟨?_, ?_, ?_, ?_⟩
  · refine iv_ch hI ?_ ?_ ?_ ?_ ?_ ?_ ?_
    · rw [wT_sn _ _ _ (by decide)]; simp (disch := omega) only [wT_n]
    · intro q hq
      simp (disch := omega) only [wT_n]
      exact iv_str hI q hq
    · intro c hc; simp (disch := omega) only [wT_n]
    · intro c hc; simp (disch := omega) only [wT_n]
    · intro c hc; simp (disch := omega) only [wT_n]
    · intro c hc hne
      have hci : c ≠ i := fun e => hne (by rw [e]; exact e10)
      rw [wT_n _ _ _ _ (by decide), wT_sn _ _ _ hci]
      simp (disch := omega) only [wT_n]
      exact iv_by2 hI c hc hne
    · obtain ⟨v, l, h1, h2, h3⟩ := iv_v hI
      have k1 := sm_set (v := v) (w := fun c => if c = i then 0 else v c) (g := i) hi (fun c hc hne => by simp [hne])
      refine ⟨fun c => if c = i then 0 else v c, l + v i, fun c hc => ?_, ?_, ?_⟩
      · by_cases hci : c = i
        · subst hci
          simp (disch := omega) only [wT_n, wT_ss]
          simp
          rfl
        · simp (disch := omega) only [wT_n, wT_sn]
          simp [hci, h1 c hc]
      · rw [wT_ss, h2, h1 i hi, nI_add]
      · simp at k1
        omega
  · refine ev_frame hE (fun c _ => by simp (disch := omega) only [wT_n]) (i := i) ?_ (fun c hc hci => ?_)
    · obtain ⟨e1, ⟨j, j1, j2, j3⟩, ⟨k, k1, k2, k3, k4⟩, e4, e5, e6⟩ := hE i hi
      have n12 : ¬ ((1 : Int32) = 2) := by decide
      have f5 : (wT (wT (wT (wT T 7 i 0) 8 i (-5)) 9 i 2) 0 11 (T 0 11 + T 7 i)) 5 i = T 5 i := by simp (disch := omega) only [wT_n]
      have f6 : (wT (wT (wT (wT T 7 i 0) 8 i (-5)) 9 i 2) 0 11 (T 0 11 + T 7 i)) 6 i = T 6 i := by simp (disch := omega) only [wT_n]
      have f7 : (wT (wT (wT (wT T 7 i 0) 8 i (-5)) 9 i 2) 0 11 (T 0 11 + T 7 i)) 7 i = 0 := by simp (disch := omega) only [wT_n, wT_ss]
      have f8 : (wT (wT (wT (wT T 7 i 0) 8 i (-5)) 9 i 2) 0 11 (T 0 11 + T 7 i)) 8 i = (-5) := by simp (disch := omega) only [wT_n, wT_ss]
      have f9 : (wT (wT (wT (wT T 7 i 0) 8 i (-5)) 9 i 2) 0 11 (T 0 11 + T 7 i)) 9 i = 2 := by simp (disch := omega) only [wT_n, wT_ss]
      have f10 : (wT (wT (wT (wT T 7 i 0) 8 i (-5)) 9 i 2) 0 11 (T 0 11 + T 7 i)) 10 i = (-5) := by simp (disch := omega) only [wT_n]; exact e10
      refine ⟨⟨2, by decide, f9⟩, ⟨j, j1, f5.trans j2, fun hq => absurd f9 hq⟩, ⟨k, k1, f6.trans k2, fun hq => ?_, fun hq => ?_⟩, fun _ => ⟨f7, f8⟩, Or.inl f8, fun q hq he => ?_⟩
      · rw [f9] at hq; exact absurd hq (by decide)
      · rw [f9] at hq; exact absurd hq (by decide)
      · rw [f10] at he; exact absurd he.symm (nI_2 (by omega))
    · refine ⟨?_, ?_, ?_, ?_, ?_, ?_⟩
      all_goals simp (disch := omega) only [wT_n, wT_sn]
  · exact jk_wT (jk_wT (jk_wT (jk_wT hJ (rng_f (by decide) (by decide) (by omega)) _) (rng_f (by decide) (by decide) (by omega)) _) (rng_f (by decide) (by decide) (by omega)) _) (rng_0 (Or.inr (Or.inl rfl))) _
  · rw [wT_sn _ _ _ (by decide)]
    simp (disch := omega) only [wT_n]
    exact hs
set_option maxHeartbeats 1000000 in
theorem st_mend (h : St T n s) {i p j : Nat} (hi : i < n) (h9 : T 9 i = 1) (hp : p < 6) (hj2 : j ≤ 20) : St (wT (wT (wT T 1 p (nI j)) 6 i 0) 9 i 0) n s := by
  obtain ⟨hI, hE, hJ, hs⟩ := h
  have hn := iv_n hI
  have e10 : T 10 i = (-5) := by
    by_cases e : T 10 i = (-5)
    · exact e
    · have := iv_by2 hI i hi e
      rw [h9] at this
      exact absurd this (by decide)
  refine ⟨?_, ?_, ?_, ?_⟩
  · refine iv_ch hI ?_ ?_ ?_ ?_ ?_ ?_ ?_
    · simp (disch := omega) only [wT_n]
    · intro q hq
      by_cases hpq : q = p
      · subst hpq
        exact ⟨j, by omega, by simp (disch := omega) only [wT_n, wT_ss]⟩
      · obtain ⟨j2, a1, a2⟩ := iv_str hI q hq
        exact ⟨j2, a1, by simp (disch := omega) only [wT_n, wT_sn]; exact a2⟩
    · intro c hc; simp (disch := omega) only [wT_n]
    · intro c hc; simp (disch := omega) only [wT_n]
    · intro c hc; simp (disch := omega) only [wT_n]
    · intro c hc hne
      have hci : c ≠ i := fun e => hne (by rw [e]; exact e10)
      rw [wT_sn _ _ _ hci]
      simp (disch := omega) only [wT_n]
      exact iv_by2 hI c hc hne
    · exact iv_vv hI (fun c hc => by simp (disch := omega) only [wT_n]) (by simp (disch := omega) only [wT_n])
  · refine ev_frame hE (fun c _ => by simp (disch := omega) only [wT_n]) (i := i) ?_ (fun c hc hci => ?_)
    · obtain ⟨e1, ⟨x, j1, j2, j3⟩, -, e4, e5, e6⟩ := hE i hi
      have f5 : (wT (wT (wT T 1 p (nI j)) 6 i 0) 9 i 0) 5 i = T 5 i := by simp (disch := omega) only [wT_n]
      have f6 : (wT (wT (wT T 1 p (nI j)) 6 i 0) 9 i 0) 6 i = nI 0 := by simp (disch := omega) only [wT_n, wT_ss]; rfl
      have f8 : (wT (wT (wT T 1 p (nI j)) 6 i 0) 9 i 0) 8 i = T 8 i := by simp (disch := omega) only [wT_n]
      have f9 : (wT (wT (wT T 1 p (nI j)) 6 i 0) 9 i 0) 9 i = nI 0 := by simp (disch := omega) only [wT_n, wT_ss]; rfl
      have f10 : (wT (wT (wT T 1 p (nI j)) 6 i 0) 9 i 0) 10 i = (-5) := by simp (disch := omega) only [wT_n]; exact e10
      refine ⟨⟨0, by decide, f9⟩, ⟨x, j1, f5.trans j2, fun _ => j3 (by rw [h9]; decide)⟩, ⟨0, by decide, f6, fun _ => by decide, fun hq => ?_⟩, fun hq => ?_, by rw [f8]; exact e5, fun q hq he => ?_⟩
      · rw [f9] at hq; exact absurd hq (by decide)
      · rw [f9] at hq; exact absurd hq (by decide)
      · rw [f10] at he; exact absurd he.symm (nI_2 (by omega))
    · refine ⟨?_, ?_, ?_, ?_, ?_, ?_⟩
      all_goals simp (disch := omega) only [wT_n, wT_sn]
  · exact jk_wT (jk_wT (jk_wT hJ (rng_p (Or.inl rfl) hp) _) (rng_f (by decide) (by decide) (by omega)) _) (rng_f (by decide) (by decide) (by omega)) _
  · simp (disch := omega) only [wT_n]
    exact hs
theorem st_boast (h : St T n s) {i : Nat} (hi : i < n) {v : Int32} (hv : v = (-5) ∨ (T 9 i ≠ 2 ∧ ∃ j, j ≤ 99 ∧ v = nI j)) : St (wT T 8 i v) n s := by
  obtain ⟨hI, hE, hJ, hs⟩ := h
  have hn := iv_n hI
  refine ⟨iv_8 hI i v, ?_, jk_wT hJ (rng_f (by decide) (by decide) (by omega)) _, by rw [wT_n _ _ _ _ (by decide)]; exact hs⟩
  refine ev_frame hE (fun c _ => by simp (disch := omega) only [wT_n]) (i := i) ?_ (fun c hc hci => ?_)
  · obtain ⟨e1, e2, e3, e4, e5, e6⟩ := hE i hi
    refine ⟨?_, ?_, ?_, ?_, ?_, ?_⟩
    · simp (disch := omega) only [wT_n]; exact e1
    · simp (disch := omega) only [wT_n]; exact e2
    · simp (disch := omega) only [wT_n]; exact e3
    · simp (disch := omega) only [wT_n, wT_ss]
      intro h2
      refine ⟨(e4 h2).1, ?_⟩
      rcases hv with hv | hv
      · exact hv
      · exact absurd h2 hv.1
    · rw [wT_ss]
      rcases hv with hv | ⟨-, hv⟩
      · exact Or.inl hv
      · exact Or.inr hv
    · simp (disch := omega) only [wT_n]; exact e6
  · refine ⟨?_, ?_, ?_, ?_, ?_, ?_⟩
    all_goals simp (disch := omega) only [wT_n, wT_sn]
theorem st_shame (h : St T n s) {p : Nat} (hp : p < 6) (v : Int32) : St (wT T 2 p v) n s := by
  obtain ⟨hI, hE, hJ, hs⟩ := h
  refine ⟨iv_2 hI p v, fun c hc => ?_, jk_wT hJ (rng_p (Or.inr rfl) hp) _, by rw [wT_n _ _ _ _ (by decide)]; exact hs⟩
  refine ec_same (T := T) (fun c _ => by simp (disch := omega) only [wT_n]) hc ?_ ?_ ?_ ?_ ?_ ?_ (hE c hc)
  all_goals simp (disch := omega) only [wT_n]
theorem st_doubt (h : St T n s) {i p : Nat} (hi : i < n) (hp : p < 6) (v : Int32) : St (wT (wT T 2 p v) 8 i (-5)) n s := st_boast (st_shame h hp v) hi (Or.inl rfl)
end STOPS
/-! A FIGHT, as numbers -/
def swg (x : Int32) : Int32 := 1 + nx x / 7282
theorem swg_t {x : Int32} (h : XR x) : ∃ t, t ≤ 9 ∧ swg x = nI t := by
  obtain ⟨y, hy, e⟩ := nx_XR h
  refine ⟨1 + y / 7282, by omega, ?_⟩
  unfold swg
  rw [e, show (7282 : Int32) = nI 7282 from rfl, pk_div (by omega) (by decide) (by decide), show (1 : Int32) = nI 1 from rfl, nI_add]
def fgN : Nat → Nat → Nat → Tm → Int32 → Nat
  | 0, _, _, _, _ => 0
  | m + 1, a, b, T, x => if T 9 a = 0 ∧ T 9 b = 0 then fgN m b a (hitT T a b (swg x)) (nx x) + 1 else 0
def fgT : Nat → Nat → Nat → Tm → Int32 → Tm
  | 0, _, _, T, _ => T
  | m + 1, a, b, T, x => if T 9 a = 0 ∧ T 9 b = 0 then fgT m b a (hitT T a b (swg x)) (nx x) else T
def fgX : Nat → Nat → Nat → Tm → Int32 → Int32
  | 0, _, _, _, x => x
  | m + 1, a, b, T, x => if T 9 a = 0 ∧ T 9 b = 0 then fgX m b a (hitT T a b (swg x)) (nx x) else x
section FG
variable {T : Tm} {n s : Nat}
theorem fgN_le : ∀ (m a b : Nat) (T : Tm) (x : Int32), fgN m a b T x ≤ m := by
  intro m
  induction m with
  | zero => intro a b T x; exact Nat.le_refl _
  | succ m ih =>
    intro a b T x
    rw [fgN]
    split
    · have := ih b a (hitT T a b (swg x)) (nx x); omega
    · omega
theorem fgN_pos {m a b : Nat} {x : Int32} (h : T 9 a = 0 ∧ T 9 b = 0) : 1 ≤ fgN (m + 1) a b T x := by
  rw [fgN, if_pos h]; omega
theorem fg_end : ∀ (m a b : Nat) (T : Tm) (x : Int32), fgN m a b T x < m → ¬ (fgT m a b T x 9 a = 0 ∧ fgT m a b T x 9 b = 0) := by
  intro m
  induction m with
  | zero => intro a b T x h; omega
  | succ m ih =>
    intro a b T x h
    rw [fgN] at h
    rw [fgT]
    by_cases hp : T 9 a = 0 ∧ T 9 b = 0
    · rw [if_pos hp] at h ⊢
      intro hq
      exact ih b a _ _ (by omega) ⟨hq.2, hq.1⟩
    · rw [if_neg hp]; exact hp
/-- what a fight does not touch -/
theorem fg_off : ∀ (m a b : Nat) (T : Tm) (x : Int32), (∀ q, q = 1 ∨ q = 2 ∨ q = 3 ∨ q = 4 → fgT m a b T x q = T q) ∧ (∀ q c, q ≠ 0 → c ≠ a → c ≠ b → fgT m a b T x q c = T q c) := by
  intro m
  induction m with
  | zero => intro a b T x; exact ⟨fun _ _ => rfl, fun _ _ _ _ _ => rfl⟩
  | succ m ih =>
    intro a b T x
    rw [fgT]
    by_cases hp : T 9 a = 0 ∧ T 9 b = 0
    · rw [if_pos hp]
      obtain ⟨i1, i2⟩ := ih b a (hitT T a b (swg x)) (nx x)
      refine ⟨fun q hq => ?_, fun q c hq ha hb => ?_⟩
      · rw [i1 q hq, hit_q T a b _ (by omega) (by omega) (by omega) (by omega) (by omega) (by omega) (by omega)]
      · rw [i2 q c hq hb ha]
        have hq2 : q = 5 ∨ q = 6 ∨ q = 7 ∨ q = 8 ∨ q = 9 ∨ q = 10 ∨ (q ≠ 5 ∧ q ≠ 6 ∧ q ≠ 7 ∧ q ≠ 8 ∧ q ≠ 9 ∧ q ≠ 10) := by omega
        rcases hq2 with rfl | rfl | rfl | rfl | rfl | rfl | ⟨x5, x6, x7, x8, x9, x10⟩
        · simp [hitT, ha, hb]
        · simp [hitT, ha, hb]
        · simp [hitT, ha, hb]
        · simp [hitT, ha, hb]
        · simp [hitT, ha, hb]
        · simp [hitT, ha, hb]
        · simp [hitT, hq, x5, x6, x7, x8, x9, x10]
    · rw [if_neg hp]
      exact ⟨fun _ _ => rfl, fun _ _ _ _ _ => rfl⟩
set_option maxHeartbeats 1000000 in
theorem st_fg : ∀ (m a b s : Nat) (T : Tm) (x : Int32), St T n s → a < n → b < n → a ≠ b → T 3 a ≠ T 3 b → XR x → J2 T a b → St (fgT m a b T x) n (s + fgN m a b T x) ∧ XR (fgX m a b T x) ∧ J2 (fgT m a b T x) a b := by
  intro m
  induction m with
  | zero => intro a b s T x h _ _ _ _ hx hJ; exact ⟨h, hx, hJ⟩
  | succ m ih =>
    intro a b s T x h ha hb hab ho hx hJ
    rw [fgT, fgN, fgX]
    by_cases hp : T 9 a = 0 ∧ T 9 b = 0
    · rw [if_pos hp, if_pos hp, if_pos hp]
      obtain ⟨t, ht, et⟩ := swg_t hx
      rw [et]
      have h3 : (hitT T a b (nI t)) 3 = T 3 := hit_9 (nI t) T
      obtain ⟨i1, i2, i3⟩ := ih b a (s + 1) (hitT T a b (nI t)) (nx x) (st_hit h ha hb hab ho hp.1 hp.2 ht) hb ha (fun e => hab e.symm) (by rw [h3]; exact fun e => ho e.symm) (nx_XR hx) (J2_sym (J2_hit h.1 ha hb hab hp.1 hp.2 _))
      have e : s + (fgN m b a (hitT T a b (nI t)) (nx x) + 1) = s + 1 + fgN m b a (hitT T a b (nI t)) (nx x) := by omega
      rw [e]
      exact ⟨i1, i2, J2_sym i3⟩
    · rw [if_neg hp, if_neg hp, if_neg hp]
      exact ⟨h, hx, hJ⟩
/-- the loop of the class -/
theorem m_fight_l {k : Nat} (hk : k ≠ 10) : ∀ (f m i a b : Nat) (M : Mm), i + m = 20 → m < f → ∀ s, St (M k) n s → a < n → b < n → a ≠ b → (M k) 3 a ≠ (M k) 3 b → XR (M 10 0 0) →
    ∃ M' : Mm, m_X4_fight_17 k f (nI a) (nI b) (nI i) M = some (nI (i + fgN m a b (M k) (M 10 0 0)), M') ∧ M' k = fgT m a b (M k) (M 10 0 0) ∧ M' 10 0 0 = fgX m a b (M k) (M 10 0 0) ∧ ∀ q, q ≠ k → q ≠ 10 → M' q = M q := by
  intro f
  induction f with
  | zero => intro m i a b M _ h; omega
  | succ f ih =>
    intro m i a b M him hm s hS ha hb hab ho hx
    have h := hS.1
    have hn := iv_n h
    rw [m_X4_fight_17.eq_2]
    cases m with
    | zero =>
      have e : i = 20 := by omega
      subst e
      rw [if_pos (by decide)]
      exact ⟨M, rfl, rfl, rfl, fun _ _ _ => rfl⟩
    | succ m =>
      have c : ¬ (20 : Int32) ≤ nI i := nI_ge (b := 20) (by omega) (by omega)
      rw [if_neg c, s_areInPlay h ha hb, bnd_s, nm_u, uM_self, fgN, fgT, fgX]
      by_cases hp : (M k) 9 a = 0 ∧ (M k) 9 b = 0
      · obtain ⟨t, ht, et⟩ := swg_t hx
        have eb : bI (decide ((M k) 9 a = 0) && decide ((M k) 9 b = 0)) = 1 := by rw [decide_eq_true hp.1, decide_eq_true hp.2]; rfl
        rw [eb, if_neg (by decide), if_pos hp, if_pos hp, if_pos hp, s_swing, bnd_s, nm_u]
        have e8 : uM M 10 (wT (M 10) 0 0 (nx (M 10 0 0))) k = M k := uM_ne _ _ _ hk
        have es : 1 + nx (M 10 0 0) / 7282 = swg (M 10 0 0) := rfl
        rw [e8, es, s_hit h ha hb hab hp.1 hp.2, bnd_s, nm_u, nI_p1]
        have h3 : (hitT (M k) a b (swg (M 10 0 0))) 3 = (M k) 3 := hit_9 _ _
        have e10 : uM (uM M 10 (wT (M 10) 0 0 (nx (M 10 0 0)))) k (hitT (M k) a b (swg (M 10 0 0))) 10 0 0 = nx (M 10 0 0) := by
          rw [uM_ne _ _ _ (fun e => hk e.symm), uM_same, wT_ss]
        obtain ⟨M', j1, j2, j3, j4⟩ := ih m (i + 1) b a (uM (uM M 10 (wT (M 10) 0 0 (nx (M 10 0 0)))) k (hitT (M k) a b (swg (M 10 0 0)))) (by omega) (by omega) (s + 1) (by rw [uM_same, et]; exact st_hit hS ha hb hab ho hp.1 hp.2 ht) hb ha (fun e => hab e.symm) (by rw [uM_same, h3]; exact fun e => ho e.symm) (by rw [e10]; exact nx_XR hx)
        rw [uM_same, e10] at j1 j2 j3
        refine ⟨M', ?_, j2, j3, fun q q1 q2 => ?_⟩
        · rw [j1]
          have e : i + 1 + fgN m b a (hitT (M k) a b (swg (M 10 0 0))) (nx (M 10 0 0)) = i + (fgN m b a (hitT (M k) a b (swg (M 10 0 0))) (nx (M 10 0 0)) + 1) := by omega
          rw [e]
        · rw [j4 q q1 q2, uM_ne _ _ _ q1, uM_ne _ _ _ q2]
      · have eb : bI (decide ((M k) 9 a = 0) && decide ((M k) 9 b = 0)) = 0 := by
          by_cases h1 : (M k) 9 a = 0
          · have h2 : ¬ (M k) 9 b = 0 := fun e => hp ⟨h1, e⟩
            rw [decide_eq_false h2, Bool.and_false]; rfl
          · rw [decide_eq_false h1, Bool.false_and]; rfl
        rw [eb, if_pos rfl, if_neg hp, if_neg hp, if_neg hp]
        exact ⟨M, rfl, rfl, rfl, fun _ _ _ => rfl⟩
/-- a fight of two, whoever is named first -/
theorem m_fight {k s : Nat} (hk : k ≠ 10) {a b : Nat} {M : Mm} (hS : St (M k) n s) (ha : a < n) (hb : b < n) (hab : a ≠ b) (ho : (M k) 3 a ≠ (M k) 3 b) (hx : XR (M 10 0 0)) :
    ∃ M' : Mm, m_X4_fight k (nI a) (nI b) M = some (nI (fgN 20 (min a b) (max a b) (M k) (M 10 0 0)), M') ∧ M' k = fgT 20 (min a b) (max a b) (M k) (M 10 0 0) ∧ M' 10 0 0 = fgX 20 (min a b) (max a b) (M k) (M 10 0 0) ∧ ∀ q, q ≠ k → q ≠ 10 → M' q = M q := by
  have hn := iv_n hS.1
  have h0 : (0 : Int32) = nI 0 := rfl
  unfold m_X4_fight
  rw [nm_u, nm_u, mn_nI (by omega) (by omega), mx_nI (by omega) (by omega), h0]
  by_cases hlt : a < b
  · rw [Nat.min_eq_left (by omega), Nat.max_eq_right (by omega)]
    obtain ⟨M', e1, e2⟩ := m_fight_l hk fu 20 0 a b M (by omega) (by unfold fu; omega) s hS ha hb hab ho hx
    rw [Nat.zero_add] at e1
    exact ⟨M', e1, e2⟩
  · rw [Nat.min_eq_right (by omega), Nat.max_eq_left (by omega)]
    obtain ⟨M', e1, e2⟩ := m_fight_l hk fu 20 0 b a M (by omega) (by unfold fu; omega) s hS hb ha (fun e => hab e.symm) (fun e => ho e.symm) hx
    rw [Nat.zero_add] at e1
    exact ⟨M', e1, e2⟩
/-- what a fight of two in play comes to -/
theorem fight_all {s : Nat} {a b : Nat} {x : Int32} (hS : St T n s) (ha : a < n) (hb : b < n) (hab : a ≠ b) (ho : T 3 a ≠ T 3 b) (hx : XR x) (h9a : T 9 a = 0) (h9b : T 9 b = 0) :
    St (fgT 20 (min a b) (max a b) T x) n (s + fgN 20 (min a b) (max a b) T x) ∧ XR (fgX 20 (min a b) (max a b) T x) ∧ J2 (fgT 20 (min a b) (max a b) T x) a b ∧ 1 ≤ fgN 20 (min a b) (max a b) T x ∧ fgN 20 (min a b) (max a b) T x ≤ 20 ∧ (fgN 20 (min a b) (max a b) T x < 20 → ¬ (fgT 20 (min a b) (max a b) T x 9 a = 0 ∧ fgT 20 (min a b) (max a b) T x 9 b = 0)) := by
  by_cases hlt : a < b
  · rw [Nat.min_eq_left (by omega), Nat.max_eq_right (by omega)]
    obtain ⟨i1, i2, i3⟩ := st_fg 20 a b s T x hS ha hb hab ho hx (J2_play hS.1 h9a h9b)
    exact ⟨i1, i2, i3, fgN_pos ⟨h9a, h9b⟩, fgN_le _ _ _ _ _, fun h => fg_end _ _ _ _ _ h⟩
  · rw [Nat.min_eq_right (by omega), Nat.max_eq_left (by omega)]
    obtain ⟨i1, i2, i3⟩ := st_fg 20 b a s T x hS hb ha (fun e => hab e.symm) (fun e => ho e.symm) hx (J2_play hS.1 h9b h9a)
    exact ⟨i1, i2, J2_sym i3, fgN_pos ⟨h9b, h9a⟩, fgN_le _ _ _ _ _, fun h q => fg_end _ _ _ _ _ h ⟨q.2, q.1⟩⟩
end FG
