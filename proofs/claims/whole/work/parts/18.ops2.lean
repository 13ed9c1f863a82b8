/-! PUBLIC CALLS: the text, undo, save, restore, and all that only asks -/
section OPS2
variable {M : Mm} {TM : Tm} {n : Nat}
theorem nar_c : ∀ c, c < 127 → vp_nar .char (((nI c).toUInt32 % 65536).toInt32) = nI c := by decide
theorem now_9 {TM' : Tm} (X : Tm) (h : Now M TM n) (e : TM' 1 = TM 1) : Now (uM M 9 X) TM' n := by
  unfold Now
  rw [uM_ne _ _ _ (by decide), e]
  exact h
theorem rst_9 {TM' : Tm} {X : Tm} {L : Nat} (hr : Rst M TM) (e1 : TM' 1 = TM 1) (e2 : TM' 0 1 = TM 0 1) (e3 : TM' 0 2 = TM 0 2) (ht : TxR (uM M 9 X) TM' L) : Rst (uM M 9 X) TM' := by
  obtain ⟨⟨hh, β, c1, c2, c3, c4, c5, c6⟩, b, _⟩ := hr
  have u12 : uM M 9 X 12 = M 12 := uM_ne _ _ _ (by decide)
  have u0 : uM M 9 X 0 = M 0 := uM_ne _ _ _ (by decide)
  have u2 : uM M 9 X 2 = M 2 := uM_ne _ _ _ (by decide)
  refine ⟨⟨hh, β, c1, by rw [u12]; exact c2, by rw [e2]; exact c3, by rw [u12]; exact c4, c5, fun j hj => ?_⟩, ?_, L, ht⟩
  · obtain ⟨nj, i1, i2⟩ := c6 j hj
    have bj := c4 j (by omega)
    have ub : uM M 9 X (β j) = M (β j) := uM_ne _ _ _ (by omega)
    rw [ub, e1]
    exact ⟨nj, i1, i2⟩
  · unfold SnR
    rw [u0, u2, e1, e3]
    exact b
theorem op_append (a : Int32) : OP (m_X5_append a) (m_X6_append a) := by
  intro M TM ⟨⟨n, hN⟩, hr⟩
  unfold m_X5_append m_X6_append
  rw [s_isWithin, bnd_s, s_in, bnd_s]
  cases hw : wi a 32 126 with
  | false => rw [bf_f, bf_f]; exact ⟨_, _, _, rfl, rfl, ⟨n, hN⟩, hr⟩
  | true =>
    obtain ⟨ch, h1, h2, rfl⟩ := wi_n (b := 32) (c := 126) hw (by decide) (by decide)
    obtain ⟨L, hL, t1, t2, t3⟩ := hr.2.2
    rw [bf_t, bf_t]
    simp only [nm_u]
    rw [t1, t2]
    by_cases hlt : L < 60
    · have c1 : nI L < 60 := nI_lt (b := 60) hlt (by decide)
      have c2 : ¬ nI L = 60 := fun e => by
        have := nI_inj (b := 60) (by omega) (by decide) e
        omega
      rw [if_pos c1, if_neg c2, ib_nI hlt (by decide), gd_t, gd_t, nar_c ch (by omega), cl_nI (by omega)]
      have e1 : wM M 9 1 L (nI ch) 9 0 1 = nI L := by rw [wM_off _ _ _ _ _ _ _ (by decide)]; exact t1
      have e2 : wT TM 2 L (nI ch) 0 4 = nI L := by rw [wT_n _ _ _ _ (by decide)]; exact t2
      rw [e1, e2, nI_p1]
      unfold wM
      simp only [uM_same, uM_uM, wT_ss]
      refine ⟨_, _, _, rfl, rfl, ⟨n, now_9 _ hN ?_⟩, rst_9 (L := L + 1) hr ?_ ?_ ?_ ⟨by omega, ?_, ?_, fun j hj => ?_⟩⟩
      · simp (disch := omega) only [wT_ne]
      · simp (disch := omega) only [wT_ne]
      · simp (disch := omega) only [wT_ne, wT_sn, wT_n]
      · simp (disch := omega) only [wT_ne, wT_sn, wT_n]
      · rw [uM_same, wT_ss]
      · rw [wT_ss]
      · rw [uM_same]
        by_cases hjL : j = L
        · subst hjL
          refine ⟨ch, h1, h2, ?_, ?_⟩ <;> simp (disch := omega) only [wT_n, wT_ss]
        · obtain ⟨c, g1, g2, g3, g4⟩ := t3 j (by omega)
          refine ⟨c, g1, g2, ?_, ?_⟩ <;> simp (disch := omega) only [wT_n, wT_sn] <;> assumption
    · have e : L = 60 := by omega
      subst e
      have c1 : ¬ nI 60 < 60 := by decide
      have c2 : nI 60 = 60 := rfl
      rw [if_neg c1, if_pos c2]
      exact ⟨_, _, _, rfl, rfl, ⟨n, hN⟩, hr⟩
theorem op_clearText : OP m_X5_clearText m_X6_clearText := by
  intro M TM ⟨⟨n, hN⟩, hr⟩
  obtain ⟨L, hL, t1, t2, t3⟩ := hr.2.2
  unfold m_X5_clearText m_X6_clearText
  simp only [nm_u]
  rw [t1, t2]
  unfold wM
  refine ⟨_, _, _, rfl, rfl, ⟨n, now_9 _ hN ?_⟩, rst_9 (L := 0) hr ?_ ?_ ?_ ⟨by omega, ?_, ?_, fun j hj => by omega⟩⟩
  · simp (disch := omega) only [wT_ne]
  · simp (disch := omega) only [wT_ne]
  · simp (disch := omega) only [wT_sn]
  · simp (disch := omega) only [wT_sn]
  · rw [uM_same, wT_ss]; rfl
  · rw [wT_ss]; rfl
theorem op_undo : OP m_X5_undo m_X6_undo := by
  intro M TM ⟨⟨n, hN⟩, hr⟩
  have hr0 := hr
  obtain ⟨⟨hh, β, c1, c2, c3, c4, c5, c6⟩, hS, L, hT⟩ := hr
  unfold m_X5_undo m_X6_undo m_X1_bringBack
  simp only [nm_u]
  rw [c2, c3]
  cases hh with
  | zero =>
    have d1 : ¬ (1 : Int32) ≤ nI 0 := by decide
    have d2 : nI 0 = 0 := rfl
    rw [if_neg d1, if_pos d2, bnd_s]
    exact ⟨_, _, _, rfl, rfl, ⟨n, hN⟩, hr0⟩
  | succ k =>
    have d1 : (1 : Int32) ≤ nI (k + 1) := nI_le (a := 1) (by omega) (by omega)
    have d2 : ¬ nI (k + 1) = 0 := nI_ne0 (by omega) (by omega)
    obtain ⟨b1, b2, b3⟩ := c4 k (by omega)
    obtain ⟨nk, i1, i2⟩ := c6 k (by omega)
    have hb1 : β k ≠ 1 := by omega
    have hb12 : β k ≠ 12 := by omega
    have z : (0 : Int32) = nI 0 := rfl
    have w1 : wM M 12 0 1 (nI k) 12 0 1 = nI k := by rw [wM_at]; exact up_s _ _ _
    have w2 : wM M 12 0 1 (nI k) 12 1 k = nI (β k) := by rw [wM_off _ _ _ _ _ _ _ (by decide)]; exact b1
    have w3 : wM M 12 0 1 (nI k) (β k) = M (β k) := uM_ne _ _ _ hb12
    have w4 : wM M 12 0 1 (nI k) 1 = M 1 := uM_ne _ _ _ (by decide)
    have hS1 : ∀ (x : Nat), 256 ≤ x → cpM (TM 1) (k + 1) 0 x = TM 1 x := fun x hx => cp_out (by omega)
    rw [if_pos d1, if_neg d2, nI_m1 (by omega), Nat.add_sub_cancel, w1, ib_nI (by omega) (by decide), gd_t, cl_nI (by omega), w2, sb_nI b2 b3, gd_t, cl_nI (by omega), s_copyFrom hb1, bnd_s, w3, w4, uM_ne _ _ _ (by decide), w1, bnd_s]
    rw [z, s_copies (f := k + 1) (t := 0) (by omega) (by decide) (by omega), bnd_s, sS_n _ _ (by decide), c3, nI_m1 (by omega), Nat.add_sub_cancel, wT_ss]
    refine ⟨_, _, _, rfl, rfl, ⟨nk, ?_, ?_⟩, ⟨k, β, by omega, ?_, ?_, ?_, c5, fun j hj => ?_⟩, ?_, L, ?_⟩
    · rw [uM_same]
      exact ag_Iv (cp_Ag _ _) i1
    · rw [uM_same, wT_ne _ _ _ (by decide), sS_1]
      refine ag_RS (iv_n i1) (cp_Ag _ _) (rs_cong (iv_n i1) (fun i hi => ?_) i2)
      have := cp_in (s := TM 1) (f := k + 1) (t := 0) hi
      simpa using this
    · rw [uM_ne _ _ _ (by decide)]; exact w1
    · rw [wT_ss]
    · intro j hj
      rw [uM_ne _ _ _ (by decide), wM_off _ _ _ _ _ _ _ (by decide)]
      exact c4 j hj
    · obtain ⟨nj, k1, k2⟩ := c6 j (by omega)
      have bj := c4 j (by omega)
      have e1 : ∀ X : Tm, (uM (wM M 12 0 1 (nI k)) 1 X) (β j) = M (β j) := fun X => by
        rw [uM_ne _ _ _ (by omega)]
        exact uM_ne _ _ _ (by omega)
      rw [e1, wT_ne _ _ _ (by decide), sS_1]
      exact ⟨nj, k1, rs_cong (iv_n k1) (fun i hi => hS1 _ (by omega)) k2⟩
    · refine sn_fr2 ?_ ?_ ?_ (fun x h1 h2 => ?_) hS
      · rw [uM_ne _ _ _ (by decide), wM_off _ _ _ _ _ _ _ (by decide)]
      · rw [uM_ne _ _ _ (by decide)]
        exact uM_ne _ _ _ (by decide)
      · rw [wT_sn _ _ _ (by decide), sS_n _ _ (by decide)]
      · rw [wT_ne _ _ _ (by decide), sS_1]
        exact hS1 x (by omega)
    · refine tx_fr2 ?_ ?_ ?_ hT
      · rw [uM_ne _ _ _ (by decide)]
        exact uM_ne _ _ _ (by decide)
      · rw [wT_sn _ _ _ (by decide), sS_n _ _ (by decide)]
      · rw [wT_ne _ _ _ (by decide), sS_n _ _ (by decide)]
theorem pBe_all (T : Tm) (hw p q : Int32) : pBe T hw true p = pBe T hw true q := rfl
theorem d11 : decide ((-1 : Int32) = (-1)) = true := by decide
theorem d55 : decide ((-5 : Int32) = (-5)) = true := by decide
theorem op_save : OP m_X5_save m_X6_save := by
  intro M TM ⟨⟨n, hN⟩, hr⟩
  obtain ⟨hH, hS, L, hT⟩ := hr
  obtain ⟨hh, β, c1, c2, c3, c4, c5, c6⟩ := hH
  have h := hN.1
  have hR := hN.2
  have hn := iv_n h
  have z : (0 : Int32) = nI 0 := rfl
  have e1 : (wM (uM M 2 (cpT (M 2) (M 1))) 0 0 7 1) 1 = M 1 := by
    unfold wM
    rw [uM_ne _ _ _ (by decide), uM_ne _ _ _ (by decide)]
  have e4 : uM (wM (uM M 2 (cpT (M 2) (M 1))) 0 0 7 1) 1 (M 1) = wM (uM M 2 (cpT (M 2) (M 1))) 0 0 7 1 := by
    have e := uM_self (wM (uM M 2 (cpT (M 2) (M 1))) 0 0 7 1) 1
    rw [e1] at e
    exact e
  have e2 : ∀ x, x < 1536 ∨ 1792 ≤ x → cpM (TM 1) 0 6 x = TM 1 x := fun x hx => cp_out (by omega)
  have hR2 : RS (M 1) ((wT (sS TM (cpM (TM 1) 0 6)) 0 2 1) 1) 0 n := by
    rw [wT_ne _ _ _ (by decide), sS_1]
    exact rs_cong hn (fun i hi => e2 _ (by omega)) hR
  have q1 : m_X6_copies 0 6 TM = some (0, sS TM (cpM (TM 1) 0 6)) := s_copies (f := 0) (t := 6) (by decide) (by decide) (by decide) TM
  unfold m_X5_save m_X6_save
  rw [s_copyFrom (by decide), bnd_s, nm_u, e1, s_conkersBeing h, bnd_s, nm_u, e4, q1, bnd_s, nm_u, s_conkersM hn hR2, bnd_s, d11, d55, pBe_all _ _ (-5) (-1)]
  refine ⟨_, _, _, rfl, rfl, ⟨n, ?_, ?_⟩, ⟨hh, β, c1, ?_, ?_, ?_, c5, fun j hj => ?_⟩, Or.inr ⟨?_, ?_, n, ?_, ?_⟩, L, ?_⟩
  · rw [e1]; exact h
  · rw [e1]; exact hR2
  · unfold wM
    rw [uM_ne _ _ _ (by decide), uM_ne _ _ _ (by decide)]; exact c2
  · rw [wT_sn _ _ _ (by decide), sS_n _ _ (by decide)]; exact c3
  · unfold wM
    rw [uM_ne _ _ _ (by decide), uM_ne _ _ _ (by decide)]; exact c4
  · obtain ⟨nj, k1, k2⟩ := c6 j hj
    have bj := c4 j (by omega)
    have e3 : (wM (uM M 2 (cpT (M 2) (M 1))) 0 0 7 1) (β j) = M (β j) := by
      unfold wM
      rw [uM_ne _ _ _ (by omega), uM_ne _ _ _ (by omega)]
    rw [e3, wT_ne _ _ _ (by decide), sS_1]
    exact ⟨nj, k1, rs_cong (iv_n k1) (fun i hi => e2 _ (by omega)) k2⟩
  · rw [wM_at]; exact up_s _ _ _
  · rw [wT_ss]
  · unfold wM
    rw [uM_ne _ _ _ (by decide), uM_same]
    exact ag_Iv (cp_Ag _ _) h
  · unfold wM
    rw [uM_ne _ _ _ (by decide), uM_same, wT_ne _ _ _ (by decide), sS_1]
    refine ag_RS hn (cp_Ag _ _) (rs_cong hn (fun i hi => ?_) hR)
    have := cp_in (s := TM 1) (f := 0) (t := 6) hi
    simpa using this
  · refine tx_fr2 ?_ ?_ ?_ hT
    · unfold wM
      rw [uM_ne _ _ _ (by decide), uM_ne _ _ _ (by decide)]
    · rw [wT_sn _ _ _ (by decide), sS_n _ _ (by decide)]
    · rw [wT_ne _ _ _ (by decide), sS_n _ _ (by decide)]
theorem op_restore : OP m_X5_restore m_X6_restore := by
  intro M TM ⟨⟨n, hN⟩, hr⟩
  unfold m_X5_restore m_X6_restore
  rw [nm_u, nm_u]
  rcases hr.2.1 with ⟨f1, f2⟩ | ⟨f1, f2, _⟩
  · rw [if_pos f1, if_pos f2]
    exact ⟨_, _, _, rfl, rfl, ⟨n, hN⟩, hr⟩
  · have d1 : ¬ M 0 0 7 = 0 := by rw [f1]; decide
    have d2 : ¬ TM 0 2 = 0 := by rw [f2]; decide
    obtain ⟨M', TM', k1, k2, k3, k4, k5⟩ := s_keep hN hr
    have z : (0 : Int32) = nI 0 := rfl
    rcases k4.2.1 with ⟨g1, _⟩ | ⟨_, _, ns, i1, i2⟩
    · rw [k5.1 0 (by decide) (by omega)] at g1
      exact absurd g1 d1
    have hns := iv_n i1
    have e2 : ∀ x, 256 ≤ x → cpM (TM' 1) 6 0 x = TM' 1 x := fun x hx => cp_out (by omega)
    have q1 : m_X6_copies 6 0 TM' = some (0, sS TM' (cpM (TM' 1) 6 0)) := s_copies (f := 6) (t := 0) (by decide) (by decide) (by decide) TM'
    have j1 : Iv (cpT (M' 1) (M' 2)) ns := ag_Iv (cp_Ag _ _) i1
    have j2 : RS (cpT (M' 1) (M' 2)) ((sS TM' (cpM (TM' 1) 6 0)) 1) 0 ns := by
      rw [sS_1]
      refine ag_RS hns (cp_Ag _ _) (rs_cong hns (fun i hi => ?_) i2)
      have := cp_in (s := TM' 1) (f := 6) (t := 0) hi
      simpa using this
    rw [if_neg d1, if_neg d2, k1, bnd_s, k2, bnd_s, s_copyFrom (by decide), bnd_s, uM_same, s_conkersBeing j1, bnd_s, nm_u, q1, bnd_s, s_conkersM hns j2, bnd_s, d11, d55, pBe_all _ _ (-5) (-1), uM_uM]
    refine ⟨_, _, _, rfl, rfl, ⟨ns, by rw [uM_same]; exact j1, by rw [uM_same]; exact j2⟩, rst_fr (frM_u (Or.inl rfl)) (frT_s (fun x h1 _ => e2 x h1)) k4⟩

theorem op_conker (a b : Int32) : OP (m_X5_conker a b) (m_X6_conker a b) := by
  intro M TM ⟨⟨n, hN⟩, hr⟩
  have h := hN.1
  have hR := hN.2
  have hn := iv_n h
  unfold m_X5_conker m_X6_conker
  rw [s_hasConker h, bnd_s, nm_u, uM_self, s_isConker hn hR, bnd_s]
  cases hp : hC a n with
  | false => rw [bf_f, bf_f]; exact ⟨_, _, _, rfl, rfl, ⟨n, hN⟩, hr⟩
  | true =>
    obtain ⟨i, hi, rfl⟩ := hC_t hp (by omega)
    rw [bf_t, bf_t, s_in, bnd_s, s_at0]
    simp only [bnd_s]
    cases hw : wi b 0 7 with
    | true =>
      obtain ⟨f, _, hf, rfl⟩ := wi_n (b := 0) (c := 7) hw (by decide) (by decide)
      have er := rs_f hR f (by omega) i hi
      rw [bf_t, nI_add, ib_nI (show 16 + 8 * i + f < 2048 by omega) (by decide), gd_t, nm_u, cl_nI (show 16 + 8 * i + f < 2 ^ 31 by omega), er, ib_nI (show i < 30 by omega) (by decide)]
      simp only [gd_t, nm_u]
      rw [cl_nI (show i < 2 ^ 31 by omega)]
      have hfc : f = 0 ∨ f = 1 ∨ f = 2 ∨ f = 3 ∨ f = 4 ∨ f = 5 ∨ f = 6 ∨ f = 7 := by omega
      rcases hfc with rfl | rfl | rfl | rfl | rfl | rfl | rfl | rfl
      · rw [if_pos (by decide)]; exact ⟨_, _, _, rfl, rfl, ⟨n, hN⟩, hr⟩
      · rw [if_neg (by decide), if_pos (by decide)]; exact ⟨_, _, _, rfl, rfl, ⟨n, hN⟩, hr⟩
      · rw [if_neg (by decide), if_neg (by decide), if_pos (by decide)]; exact ⟨_, _, _, rfl, rfl, ⟨n, hN⟩, hr⟩
      · rw [if_neg (by decide), if_neg (by decide), if_neg (by decide), if_pos (by decide)]; exact ⟨_, _, _, rfl, rfl, ⟨n, hN⟩, hr⟩
      · rw [if_neg (by decide), if_neg (by decide), if_neg (by decide), if_neg (by decide), if_pos (by decide)]; exact ⟨_, _, _, rfl, rfl, ⟨n, hN⟩, hr⟩
      · rw [if_neg (by decide), if_neg (by decide), if_neg (by decide), if_neg (by decide), if_neg (by decide), if_pos (by decide)]; exact ⟨_, _, _, rfl, rfl, ⟨n, hN⟩, hr⟩
      · rw [if_neg (by decide), if_neg (by decide), if_neg (by decide), if_neg (by decide), if_neg (by decide), if_neg (by decide), if_pos (by decide)]; exact ⟨_, _, _, rfl, rfl, ⟨n, hN⟩, hr⟩
      · rw [if_neg (by decide), if_neg (by decide), if_neg (by decide), if_neg (by decide), if_neg (by decide), if_neg (by decide), if_neg (by decide), if_pos (by decide)]; exact ⟨_, _, _, rfl, rfl, ⟨n, hN⟩, hr⟩
    | false =>
      rw [bf_f]
      have n0 : ¬ b = 0 := fun e => by rw [e] at hw; exact absurd hw (by decide)
      have n1 : ¬ b = 1 := fun e => by rw [e] at hw; exact absurd hw (by decide)
      have n2 : ¬ b = 2 := fun e => by rw [e] at hw; exact absurd hw (by decide)
      have n3 : ¬ b = 3 := fun e => by rw [e] at hw; exact absurd hw (by decide)
      have n4 : ¬ b = 4 := fun e => by rw [e] at hw; exact absurd hw (by decide)
      have n5 : ¬ b = 5 := fun e => by rw [e] at hw; exact absurd hw (by decide)
      have n6 : ¬ b = 6 := fun e => by rw [e] at hw; exact absurd hw (by decide)
      have n7 : ¬ b = 7 := fun e => by rw [e] at hw; exact absurd hw (by decide)
      rw [if_neg n0, if_neg n1, if_neg n2, if_neg n3, if_neg n4, if_neg n5, if_neg n6, if_neg n7]
      by_cases h8 : b = 8
      · rw [if_pos h8, if_pos h8, s_smashedBy h, bnd_s, nm_u, uM_self, s_heirOfM hn hR, bnd_s]
        exact ⟨_, _, _, rfl, rfl, ⟨n, hN⟩, hr⟩
      · rw [if_neg h8, if_neg h8]
        exact ⟨_, _, _, rfl, rfl, ⟨n, hN⟩, hr⟩
theorem all_p (p : Nat) (hp : p < 6) : decide (nI p = (-1)) = false ∧ decide (nI p = (-5)) = false := by
  refine ⟨decide_eq_false (nI_nem1 (by omega)), decide_eq_false (nI_nem5 (by omega))⟩
theorem op_player (a b : Int32) : OP (m_X5_player a b) (m_X6_player a b) := by
  intro M TM ⟨⟨n, hN⟩, hr⟩
  have h := hN.1
  have hR := hN.2
  have hn := iv_n h
  unfold m_X5_player m_X6_player
  rw [s_isPlayer, bnd_s, s_isPlayerM, bnd_s]
  cases hp : hC a 6 with
  | false => rw [bf_f, bf_f]; exact ⟨_, _, _, rfl, rfl, ⟨n, hN⟩, hr⟩
  | true =>
    obtain ⟨p, hp2, rfl⟩ := hC_t hp (by decide)
    obtain ⟨p1, p5⟩ := all_p p hp2
    have s1 := rsp1 hR hp2
    have s2 := rsp2 hR hp2
    rw [bf_t, bf_t, ib_nI hp2 (by decide)]
    simp only [gd_t, nm_u]
    rw [cl_nI (show p < 2 ^ 31 by omega)]
    by_cases h0 : b = 0
    · subst h0
      rw [if_pos rfl, if_pos rfl]
      unfold m_X6_player_52
      have z : nI (4 + 2 * p) + 0 = nI (4 + 2 * p) := Int32.add_zero _
      rw [i_pl, z, ib_nI (by omega) (by decide), gd_t, nm_u, cl_nI (by omega), s1]
      exact ⟨_, _, _, rfl, rfl, ⟨n, hN⟩, hr⟩
    rw [if_neg h0, if_neg h0]
    by_cases h1 : b = 1
    · subst h1
      rw [if_pos rfl, if_pos rfl]
      unfold m_X6_player_52
      rw [i_pl, i_pl1, ib_nI (by omega) (by decide), gd_t, nm_u, cl_nI (by omega), s2]
      exact ⟨_, _, _, rfl, rfl, ⟨n, hN⟩, hr⟩
    rw [if_neg h1, if_neg h1]
    by_cases h2 : b = 2
    · subst h2
      rw [if_pos rfl, if_pos rfl]
      unfold m_X6_player_65
      have z : (2 : Int32) - 2 = 0 := by decide
      rw [z, s_conkersBeing h, bnd_s, uM_self, s_conkersM hn hR, bnd_s, p1, p5]
      exact ⟨_, _, _, rfl, rfl, ⟨n, hN⟩, hr⟩
    rw [if_neg h2, if_neg h2]
    by_cases h3 : b = 3
    · subst h3
      rw [if_pos rfl, if_pos rfl]
      unfold m_X6_player_65
      have z : (3 : Int32) - 2 = 1 := by decide
      rw [z, s_conkersBeing h, bnd_s, uM_self, s_conkersM hn hR, bnd_s, p1, p5]
      exact ⟨_, _, _, rfl, rfl, ⟨n, hN⟩, hr⟩
    rw [if_neg h3, if_neg h3]
    by_cases h4 : b = 4
    · subst h4
      rw [if_pos rfl, if_pos rfl]
      unfold m_X6_player_65
      have z : (4 : Int32) - 2 = 2 := by decide
      rw [z, s_conkersBeing h, bnd_s, uM_self, s_conkersM hn hR, bnd_s, p1, p5]
      exact ⟨_, _, _, rfl, rfl, ⟨n, hN⟩, hr⟩
    rw [if_neg h4, if_neg h4]
    by_cases h5 : b = 5
    · subst h5
      rw [if_pos rfl, if_pos rfl, s_victoriesOf h, bnd_s, uM_self, s_victoriesM hn hR, bnd_s, p1, p5]
      exact ⟨_, _, _, rfl, rfl, ⟨n, hN⟩, hr⟩
    rw [if_neg h5, if_neg h5]
    by_cases h6 : b = 6
    · subst h6
      rw [if_pos rfl, if_pos rfl, s_conkerToSend h, bnd_s, uM_self, s_bestM hn hR, bnd_s]
      exact ⟨_, _, _, rfl, rfl, ⟨n, hN⟩, hr⟩
    rw [if_neg h6, if_neg h6]
    exact ⟨_, _, _, rfl, rfl, ⟨n, hN⟩, hr⟩
theorem op_ranked (a : Int32) : OP (m_X5_ranked a) (m_X6_ranked a) := by
  intro M TM ⟨⟨n, hN⟩, hr⟩
  have h := hN.1
  have hR := hN.2
  have hn := iv_n h
  unfold m_X5_ranked m_X6_ranked
  by_cases h0 : 0 ≤ a
  · rw [if_pos h0, if_pos h0, s_atRank h, bnd_s, nm_u, uM_self, s_rankedM hn hR a fu (fu_big hn)]
    exact ⟨_, _, _, rfl, rfl, ⟨n, hN⟩, hr⟩
  · rw [if_neg h0, if_neg h0]
    exact ⟨_, _, _, rfl, rfl, ⟨n, hN⟩, hr⟩
theorem op_line (a : Int32) : OP (m_X5_line a) (m_X6_line a) := by
  intro M TM ⟨⟨n, hN⟩, hr⟩
  have h := hN.1
  have hR := hN.2
  have hn := iv_n h
  unfold m_X5_line m_X6_line
  rw [s_hasConker h, bnd_s, nm_u, uM_self, s_isConker hn hR, bnd_s]
  cases hp : hC a n with
  | false => rw [bf_f, bf_f]; exact ⟨_, _, _, rfl, rfl, ⟨n, hN⟩, hr⟩
  | true =>
    rw [bf_t, bf_t, s_lengthOfLine h, bnd_s, nm_u, uM_self, s_lineM h hR]
    exact ⟨_, _, _, rfl, rfl, ⟨n, hN⟩, hr⟩
theorem vf_all (T : Tm) (p q : Int32) : vf T true p = vf T true q := rfl
theorem op_count (a : Int32) : OP (m_X5_count a) (m_X6_count a) := by
  intro M TM ⟨⟨n, hN⟩, hr⟩
  have h := hN.1
  have hR := hN.2
  have hn := iv_n h
  obtain ⟨hh, β, hH⟩ := hr.1
  obtain ⟨L, hT⟩ := hr.2.2
  have s0 := rs_0 hR
  have s1 : TM 1 1 = M 1 0 11 := hR.2.1
  have s2 : TM 1 2 = M 1 0 12 := hR.2.2.1
  have s3 : TM 1 3 = nI (cnt (nby (M 1)) n) := hR.2.2.2.1
  unfold m_X5_count m_X6_count
  by_cases h0 : a = 0
  · rw [if_pos h0, if_pos h0, nm_u, iv_N h, ib0 (by decide) (by decide), gd_t, nm_u, cl0, s0]
    exact ⟨_, _, _, rfl, rfl, ⟨n, hN⟩, hr⟩
  rw [if_neg h0, if_neg h0]
  by_cases h1 : a = 1
  · subst h1
    rw [if_pos rfl, if_pos rfl]
    unfold m_X6_count_71
    have z : (1 : Int32) - 1 = 0 := by decide
    rw [z, s_conkersBeing h, bnd_s, nm_u, uM_self, s_conkersM hn hR, bnd_s, d11, d55, pBe_all _ _ (-5) (-1)]
    exact ⟨_, _, _, rfl, rfl, ⟨n, hN⟩, hr⟩
  rw [if_neg h1, if_neg h1]
  by_cases h2 : a = 2
  · subst h2
    rw [if_pos rfl, if_pos rfl]
    unfold m_X6_count_71
    have z : (2 : Int32) - 1 = 1 := by decide
    rw [z, s_conkersBeing h, bnd_s, nm_u, uM_self, s_conkersM hn hR, bnd_s, d11, d55, pBe_all _ _ (-5) (-1)]
    exact ⟨_, _, _, rfl, rfl, ⟨n, hN⟩, hr⟩
  rw [if_neg h2, if_neg h2]
  by_cases h3 : a = 3
  · subst h3
    rw [if_pos rfl, if_pos rfl]
    unfold m_X6_count_71
    have z : (3 : Int32) - 1 = 2 := by decide
    rw [z, s_conkersBeing h, bnd_s, nm_u, uM_self, s_conkersM hn hR, bnd_s, d11, d55, pBe_all _ _ (-5) (-1)]
    exact ⟨_, _, _, rfl, rfl, ⟨n, hN⟩, hr⟩
  rw [if_neg h3, if_neg h3]
  by_cases h4 : a = 4
  · rw [if_pos h4, if_pos h4, s_victoriesOf h, bnd_s, nm_u, uM_self, s_victoriesM hn hR, bnd_s, d11, d55, vf_all _ (-5) (-1)]
    exact ⟨_, _, _, rfl, rfl, ⟨n, hN⟩, hr⟩
  rw [if_neg h4, if_neg h4]
  by_cases h5 : a = 5
  · subst h5
    rw [if_pos rfl, if_pos rfl]
    unfold m_X6_count_88
    have z : (1 + 5 : Int32) - 5 = nI 1 := by decide
    rw [z, ib_nI (by decide) (by decide), gd_t, cl_nI (by decide), nm_u, nm_u, s1]
    exact ⟨_, _, _, rfl, rfl, ⟨n, hN⟩, hr⟩
  rw [if_neg h5, if_neg h5]
  by_cases h6 : a = 6
  · subst h6
    rw [if_pos rfl, if_pos rfl]
    unfold m_X6_count_88
    have z : (1 + 6 : Int32) - 5 = nI 2 := by decide
    rw [z, ib_nI (by decide) (by decide), gd_t, cl_nI (by decide), nm_u, nm_u, s2]
    exact ⟨_, _, _, rfl, rfl, ⟨n, hN⟩, hr⟩
  rw [if_neg h6, if_neg h6]
  by_cases h7 : a = 7
  · subst h7
    rw [if_pos rfl, if_pos rfl]
    unfold m_X6_count_88
    have z : (1 + 7 : Int32) - 5 = nI 3 := by decide
    rw [z, ib_nI (by decide) (by decide), gd_t, cl_nI (by decide), s_withHeir h, bnd_s, nm_u, uM_self, nm_u, s3]
    exact ⟨_, _, _, rfl, rfl, ⟨n, hN⟩, hr⟩
  rw [if_neg h7, if_neg h7]
  by_cases h8 : a = 8
  · subst h8
    rw [if_pos rfl, if_pos rfl]
    unfold m_X6_count_99 m_X6_count_111
    have z : ¬ (8 : Int32) = 9 := by decide
    rw [if_neg z, s_boastsTold h, bnd_s, nm_u, uM_self, s_boastsM h hR, bnd_s, if_pos rfl]
    exact ⟨_, _, _, rfl, rfl, ⟨n, hN⟩, hr⟩
  rw [if_neg h8, if_neg h8]
  by_cases h9 : a = 9
  · subst h9
    rw [if_pos rfl, if_pos rfl]
    unfold m_X6_count_99 m_X6_count_111
    have z : ¬ (1 : Int32) = 0 := by decide
    rw [if_pos rfl, s_boastsTooHigh h, bnd_s, nm_u, uM_self, s_boastsM h hR, bnd_s, if_neg z]
    exact ⟨_, _, _, rfl, rfl, ⟨n, hN⟩, hr⟩
  rw [if_neg h9, if_neg h9]
  by_cases h10 : a = 10
  · rw [if_pos h10, if_pos h10, nm_u, nm_u, hH.2.1, hH.2.2.1]
    exact ⟨_, _, _, rfl, rfl, ⟨n, hN⟩, hr⟩
  rw [if_neg h10, if_neg h10]
  by_cases h11 : a = 11
  · rw [if_pos h11, if_pos h11, nm_u, nm_u, hT.2.1, hT.2.2.1]
    exact ⟨_, _, _, rfl, rfl, ⟨n, hN⟩, hr⟩
  rw [if_neg h11, if_neg h11]
  exact ⟨_, _, _, rfl, rfl, ⟨n, hN⟩, hr⟩
end OPS2
