/-! EACH ACTION of the face -/
def Nx (n s : Nat) (T' : Tm) : Prop := ∃ n' s', St T' n' s' ∧ s' ≤ s + 60
section ACT1
variable {T : Tm} {n s : Nat}
theorem A_thread (hS : St T n s) (a b : Int32) : ∃ r g, Act (m_X5_thread a b) T r g (Nx n s) ∧ RG r g := by
  have h := hS.1
  have hn := iv_n h
  cases hp : hC a 6 with
  | false =>
    refine ⟨(-1), false, act_err (fun M e => ?_), Or.inl rfl⟩
    unfold m_X5_thread
    rw [s_isPlayer, bnd_s, hp, bf_f]
  | true =>
    obtain ⟨p, hp2, rfl⟩ := hC_t hp (by decide)
    cases hw : wi b 1 9 with
    | false =>
      refine ⟨(-2), false, act_err (fun M e => ?_), Or.inr (Or.inl rfl)⟩
      unfold m_X5_thread
      rw [s_isPlayer, bnd_s, hp, bf_t, s_isWithin, bnd_s, hw, bf_f]
    | true =>
      obtain ⟨k, hk, hk2, rfl⟩ := wi_n (b := 1) (c := 9) hw (by decide) (by decide)
      obtain ⟨j, hj, e1⟩ := iv_str h p hp2
      by_cases hj0 : j = 0
      · subst hj0
        have c1 : ¬ (1 : Int32) ≤ nI 0 := by decide
        refine ⟨(-4), false, act_err (fun M e => ?_), Or.inr (Or.inr (Or.inr rfl))⟩
        unfold m_X5_thread
        rw [s_isPlayer, bnd_s, hp, bf_t, s_isWithin, bnd_s, hw, bf_t, ib_nI hp2 (by decide), gd_t, nm_u, cl_nI (by omega), e, e1, if_neg c1]
      · have c1 : (1 : Int32) ≤ nI j := nI_le (a := 1) (by omega) (by omega)
        by_cases hlt : n < 30
        · have c3 : nI n < 30 := nI_lt (b := 30) hlt (by decide)
          refine ⟨nI n, true, act_keep (T' := adT T n p (nI p) (nI k) (nI (j - 1))) (fun M M' e k1 e' => ?_) ⟨n + 1, s, st_thread hS hlt hp2 (by omega) hj hk hk2, by omega⟩, rg_t (by omega)⟩
          unfold m_X5_thread
          rw [s_isPlayer, bnd_s, hp, bf_t, s_isWithin, bnd_s, hw, bf_t, ib_nI hp2 (by decide), gd_t, nm_u, cl_nI (by omega), e, e1, if_pos c1, nm_u, iv_N h, if_pos c3, k1, bnd_s, e', s_add (iv_N h) hlt hp2 (by omega) hj e1, bnd_s, nm_u]
        · have c3 : ¬ nI n < 30 := nlt (b := 30) (by omega) (by omega)
          refine ⟨(-3), false, act_err (fun M e => ?_), Or.inr (Or.inr (Or.inl rfl))⟩
          unfold m_X5_thread
          rw [s_isPlayer, bnd_s, hp, bf_t, s_isWithin, bnd_s, hw, bf_t, ib_nI hp2 (by decide), gd_t, nm_u, cl_nI (by omega), e, e1, if_pos c1, nm_u, iv_N h, if_neg c3]
theorem A_give (hS : St T n s) (a b : Int32) : ∃ r g, Act (m_X5_give a b) T r g (Nx n s) ∧ RG r g := by
  have h := hS.1
  have hn := iv_n h
  cases hp : hC a 6 with
  | false =>
    refine ⟨(-1), false, act_err (fun M e => ?_), Or.inl rfl⟩
    unfold m_X5_give
    rw [s_isPlayer, bnd_s, hp, bf_f]
  | true =>
    obtain ⟨p, hp2, rfl⟩ := hC_t hp (by decide)
    cases hw : wi b 1 9 with
    | false =>
      refine ⟨(-2), false, act_err (fun M e => ?_), Or.inr (Or.inl rfl)⟩
      unfold m_X5_give
      rw [s_isPlayer, bnd_s, hp, bf_t, s_isWithin, bnd_s, hw, bf_f]
    | true =>
      obtain ⟨k, hk, hk2, rfl⟩ := wi_n (b := 1) (c := 9) hw (by decide) (by decide)
      obtain ⟨j, hj, e1⟩ := iv_str h p hp2
      by_cases hs : j + k ≤ 20
      · have c1 : nI (j + k) ≤ 20 := nI_le (b := 20) hs (by decide)
        refine ⟨nI (j + k), true, act_keep (T' := wT T 1 p (nI (j + k))) (fun M M' e k1 e' => ?_) ⟨n, s, st_give hS hp2 hs, by omega⟩, rg_t (by omega)⟩
        unfold m_X5_give
        rw [s_isPlayer, bnd_s, hp, bf_t, s_isWithin, bnd_s, hw, bf_t, ib_nI hp2 (by decide), gd_t, nm_u, cl_nI (by omega), e, e1, nI_add, if_pos c1, k1, bnd_s]
        simp only [gd_t]
        rw [nm_u, nm_u, nm_u, e', e1, nI_add]
        unfold wM
        rw [e', uM_same, wT_ss]
      · have c1 : ¬ nI (j + k) ≤ 20 := nI_ge (a := 20) (by omega) (by omega)
        refine ⟨(-3), false, act_err (fun M e => ?_), Or.inr (Or.inr (Or.inl rfl))⟩
        unfold m_X5_give
        rw [s_isPlayer, bnd_s, hp, bf_t, s_isWithin, bnd_s, hw, bf_t, ib_nI hp2 (by decide), gd_t, nm_u, cl_nI (by omega), e, e1, nI_add, if_neg c1]
theorem pE_err {a b : Int32} {v : Bool} (h0 : ¬ pE T n a b v = 0) : RG (pE T n a b v) false := by
  unfold pE at h0 ⊢
  show _ ∨ _
  by_cases h1 : hC a n = true ∧ hC b n = true
  · rw [if_pos h1] at h0 ⊢
    cases v with
    | false => exact Or.inr (Or.inl rfl)
    | true =>
      rw [if_pos rfl] at h0 ⊢
      by_cases h2 : T 3 a.toNatClampNeg = T 3 b.toNatClampNeg ∨ ¬ (T 9 a.toNatClampNeg = 0 ∧ T 9 b.toNatClampNeg = 0)
      · rw [if_pos h2]; exact Or.inr (Or.inr (Or.inr rfl))
      · rw [if_neg h2] at h0; exact absurd rfl h0
  · rw [if_neg h1]; exact Or.inl rfl
theorem hitR_n (a b : Nat) (w : Int32) : ∃ q, q ≤ 12 ∧ hitR T a b w = nI q := by
  unfold hitR
  by_cases h1 : hca T a b w = 100 <;> by_cases h2 : hwa T a w = 20 <;> by_cases h3 : hcb T a b w = 100 <;> by_cases h4 : hwb T b = 20
  all_goals simp only [h1, h2, h3, h4, if_true, if_false]
  · exact ⟨3, by decide, rfl⟩
  · exact ⟨3, by decide, rfl⟩
  · exact ⟨9, by decide, rfl⟩
  · exact ⟨1, by decide, rfl⟩
  · exact ⟨3, by decide, rfl⟩
  · exact ⟨3, by decide, rfl⟩
  · exact ⟨9, by decide, rfl⟩
  · exact ⟨1, by decide, rfl⟩
  · exact ⟨6, by decide, rfl⟩
  · exact ⟨6, by decide, rfl⟩
  · exact ⟨12, by decide, rfl⟩
  · exact ⟨4, by decide, rfl⟩
  · exact ⟨2, by decide, rfl⟩
  · exact ⟨2, by decide, rfl⟩
  · exact ⟨8, by decide, rfl⟩
  · exact ⟨0, by decide, rfl⟩
/-- a strike that may be -/
theorem A_hit (hS : St T n s) {i j t : Nat} (hi : i < n) (hj : j < n) (hij : i ≠ j) (ho : T 3 i ≠ T 3 j) (h9i : T 9 i = 0) (h9j : T 9 j = 0) (h0 : pE T n (nI i) (nI j) (wi (nI t) 1 9) = 0) : Act (m_X5_strike (nI i) (nI j) (nI t)) T (hitR T i j (nI t)) true (fun T' => T' = hitT T i j (nI t)) := by
  have h := hS.1
  refine act_keep (T' := hitT T i j (nI t)) (fun M M' e k1 e' => ?_) rfl
  unfold m_X5_strike
  rw [e, s_strikeError h, bnd_s, nm_u, ← e, uM_self, e, if_pos h0, k1, bnd_s, e', s_hit h hi hj hij h9i h9j, bnd_s, nm_u]
theorem A_strike (hS : St T n s) (a b c : Int32) : ∃ r g, Act (m_X5_strike a b c) T r g (Nx n s) ∧ RG r g := by
  have h := hS.1
  have hn := iv_n h
  by_cases h0 : pE T n a b (wi c 1 9) = 0
  · obtain ⟨i, j, hi, hj, rfl, rfl, hv, hij, ho, h9i, h9j⟩ := pE_0 hn h0
    obtain ⟨t, ht, ht2, rfl⟩ := wi_n (b := 1) (c := 9) hv (by decide) (by decide)
    obtain ⟨q, hq, eq⟩ := hitR_n (T := T) i j (nI t)
    exact ⟨hitR T i j (nI t), true, act_mono (A_hit hS hi hj hij ho h9i h9j h0) (fun T' e => ⟨n, s + 1, by rw [e]; exact st_hit hS hi hj hij ho h9i h9j ht2, by omega⟩), by rw [eq]; exact rg_t (by omega)⟩
  · refine ⟨_, false, act_err (fun M e => ?_), pE_err h0⟩
    unfold m_X5_strike
    rw [e, s_strikeError h, bnd_s, nm_u, ← e, uM_self, e, if_neg h0]
theorem fE_err {a : Int32} (h0 : ¬ fE T n a = 0) : RG (fE T n a) false := by
  unfold fE at h0 ⊢
  show _ ∨ _
  split
  · rename_i h1
    rw [if_pos h1] at h0
    split
    · rename_i h2
      rw [if_pos h2] at h0
      exact absurd rfl h0
    · exact Or.inr (Or.inr (Or.inr rfl))
  · exact Or.inl rfl
theorem mE_err {a : Int32} (h0 : ¬ mE T n a = 0) : RG (mE T n a) false := by
  unfold mE at h0 ⊢
  by_cases h1 : fE T n a = 0
  · rw [if_pos h1] at h0 ⊢
    split
    · rename_i h2
      rw [if_pos h2] at h0
      exact absurd rfl h0
    · exact Or.inr (Or.inr (Or.inr rfl))
  · rw [if_neg h1]
    exact fE_err h1
theorem A_stamp (hS : St T n s) (a : Int32) : ∃ r g, Act (m_X5_stamp a) T r g (Nx n s) ∧ RG r g := by
  have h := hS.1
  have hn := iv_n h
  by_cases h0 : fE T n a = 0
  · obtain ⟨i, hi, rfl, h9⟩ := fE_0 hn h0
    obtain ⟨v, hv, ev⟩ := iv_vle h hi
    refine ⟨T 7 i, true, act_keep (T' := wT (wT (wT (wT T 7 i 0) 8 i (-5)) 9 i 2) 0 11 (T 0 11 + T 7 i)) (fun M M' e k1 e' => ?_) ⟨n, s, st_stamp hS hi h9, by omega⟩, by rw [ev]; exact rg_t (by omega)⟩
    unfold m_X5_stamp
    rw [e, s_fallenError h, bnd_s, nm_u, ← e, uM_self, e, if_pos h0, k1, bnd_s, e', s_crush (show i < 30 by omega), bnd_s, nm_u]
  · refine ⟨_, false, act_err (fun M e => ?_), fE_err h0⟩
    unfold m_X5_stamp
    rw [e, s_fallenError h, bnd_s, nm_u, ← e, uM_self, e, if_neg h0]
theorem A_mend (hS : St T n s) (a : Int32) : ∃ r g, Act (m_X5_mend a) T r g (Nx n s) ∧ RG r g := by
  have h := hS.1
  have hn := iv_n h
  by_cases h0 : mE T n a = 0
  · obtain ⟨i, p, j, hi, rfl, h9, hp, e3, hj, hj2, e1⟩ := mE_0 h h0
    refine ⟨nI (j - 1), true, act_keep (T' := wT (wT (wT T 1 p (nI (j - 1))) 6 i 0) 9 i 0) (fun M M' e k1 e' => ?_) ⟨n, s, st_mend hS hi h9 hp (by omega), by omega⟩, rg_t (by omega)⟩
    have e9 : m_X4_threadAgain (nI i) T = some (nI (j - 1), wT (wT (wT T 1 p (nI (j - 1))) 6 i 0) 9 i 0) := by
      unfold m_X4_threadAgain
      rw [ib_nI (by omega) (by decide)]
      simp only [gd_t]
      rw [nm_u, cl_nI (by omega), e3, ib_nI hp (by decide)]
      simp only [gd_t]
      rw [nm_u, cl_nI (by omega), e1, nI_m1 hj, nm_u, nm_u, nm_u, nm_u]
      simp (disch := omega) only [wT_n, wT_ss]
    unfold m_X5_mend
    rw [e, s_mendError h, bnd_s, nm_u, ← e, uM_self, e, if_pos h0, k1, bnd_s, e', e9, bnd_s, nm_u]
  · refine ⟨_, false, act_err (fun M e => ?_), mE_err h0⟩
    unfold m_X5_mend
    rw [e, s_mendError h, bnd_s, nm_u, ← e, uM_self, e, if_neg h0]
/-- a boast may answer that there was none -/
theorem A_boast (hS : St T n s) (a b : Int32) : ∃ r g, Act (m_X5_boast a b) T r g (Nx n s) ∧ (RG r g ∨ (g = true ∧ r = (-5))) := by
  have h := hS.1
  have hn := iv_n h
  cases hp : hC a n with
  | false =>
    refine ⟨(-1), false, act_err (fun M e => ?_), Or.inl (Or.inl rfl)⟩
    unfold m_X5_boast
    rw [e, s_hasConker h, bnd_s, nm_u, ← e, uM_self, hp, bf_f]
  | true =>
    obtain ⟨i, hi, rfl⟩ := hC_t hp (by omega)
    cases hw : wi b 0 99 with
    | false =>
      refine ⟨(-2), false, act_err (fun M e => ?_), Or.inl (Or.inr (Or.inl rfl))⟩
      unfold m_X5_boast
      rw [e, s_hasConker h, bnd_s, nm_u, ← e, uM_self, hp, bf_t, s_isWithin, bnd_s, hw, bf_f]
    | true =>
      obtain ⟨k, _, hk2, rfl⟩ := wi_n (b := 0) (c := 99) hw (by decide) (by decide)
      by_cases h2 : T 9 i = 2
      · refine ⟨(-4), false, act_err (fun M e => ?_), Or.inl (Or.inr (Or.inr (Or.inr rfl)))⟩
        unfold m_X5_boast
        rw [e, s_hasConker h, bnd_s, nm_u, ← e, uM_self, hp, bf_t, s_isWithin, bnd_s, hw, bf_t, ib_nI (show i < 30 by omega) (by decide), gd_t, nm_u, cl_nI (by omega), e, if_pos h2]
      · refine ⟨T 8 i, true, act_keep (T' := wT T 8 i (nI k)) (fun M M' e k1 e' => ?_) ⟨n, s, st_boast hS hi (Or.inr ⟨h2, k, hk2, rfl⟩), by omega⟩, ?_⟩
        · unfold m_X5_boast
          rw [e, s_hasConker h, bnd_s, nm_u, ← e, uM_self, hp, bf_t, s_isWithin, bnd_s, hw, bf_t, ib_nI (show i < 30 by omega) (by decide), gd_t, nm_u, cl_nI (show i < 2 ^ 31 by omega), e, if_neg h2, k1, bnd_s]
          simp only [gd_t]
          rw [nm_u, nm_u, e']
          unfold wM
          rw [e']
        · obtain ⟨-, -, -, -, e5, -⟩ := hS.2.1 i hi
          rcases e5 with e5 | ⟨j, hj, e5⟩
          · exact Or.inr ⟨rfl, e5⟩
          · rw [e5]; exact Or.inl (rg_t (by omega))
theorem A_doubt (hS : St T n s) (a b : Int32) : ∃ r g, Act (m_X5_doubt a b) T r g (Nx n s) ∧ RG r g := by
  have h := hS.1
  have hn := iv_n h
  cases hp : hC a 6 with
  | false =>
    refine ⟨(-1), false, act_err (fun M e => ?_), Or.inl rfl⟩
    unfold m_X5_doubt
    rw [s_isPlayer, bnd_s, hp, bf_f]
  | true =>
    obtain ⟨p, hp2, rfl⟩ := hC_t hp (by decide)
    cases hc : hC b n with
    | false =>
      refine ⟨(-1), false, act_err (fun M e => ?_), Or.inl rfl⟩
      unfold m_X5_doubt
      rw [s_isPlayer, bnd_s, hp, bf_t, e, s_hasConker h, bnd_s, nm_u, ← e, uM_self, hc, bf_f]
    | true =>
      obtain ⟨i, hi, rfl⟩ := hC_t hc (by omega)
      by_cases h3 : T 3 i = nI p
      · refine ⟨(-2), false, act_err (fun M e => ?_), Or.inr (Or.inl rfl)⟩
        unfold m_X5_doubt
        rw [s_isPlayer, bnd_s, hp, bf_t, e, s_hasConker h, bnd_s, nm_u, ← e, uM_self, hc, bf_t, ib_nI (show i < 30 by omega) (by decide), gd_t, nm_u, cl_nI (by omega), e, if_pos h3]
      · by_cases h5 : T 8 i = (-5)
        · refine ⟨(-4), false, act_err (fun M e => ?_), Or.inr (Or.inr (Or.inr rfl))⟩
          unfold m_X5_doubt
          rw [s_isPlayer, bnd_s, hp, bf_t, e, s_hasConker h, bnd_s, nm_u, ← e, uM_self, hc, bf_t, ib_nI (show i < 30 by omega) (by decide), gd_t, nm_u, cl_nI (show i < 2 ^ 31 by omega), e, if_neg h3, gd_t, nm_u, if_pos h5]
        · obtain ⟨q, hq, eq⟩ := iv_own h i hi
          have sb : ∃ z, z < 6 ∧ m_X4_settleBoast (nI p) (nI i) T = some (nI z, wT (wT T 2 z (T 2 z + 1)) 8 i (-5)) := by
            unfold m_X4_settleBoast
            simp (disch := omega) only [ib_nI, gd_t, nm_u, cl_nI, eq]
            by_cases hcc : T 8 i ≤ T 7 i
            · rw [if_pos hcc]; exact ⟨p, hp2, s_sb25 (by omega) hp2⟩
            · rw [if_neg hcc]; exact ⟨q, hq, s_sb25 (by omega) hq⟩
          obtain ⟨z, hz, ez⟩ := sb
          refine ⟨nI z, true, act_keep (T' := wT (wT T 2 z (T 2 z + 1)) 8 i (-5)) (fun M M' e k1 e' => ?_) ⟨n, s, st_doubt hS hi hz _, by omega⟩, rg_t (by omega)⟩
          unfold m_X5_doubt
          rw [s_isPlayer, bnd_s, hp, bf_t, e, s_hasConker h, bnd_s, nm_u, ← e, uM_self, hc, bf_t, ib_nI (show i < 30 by omega) (by decide), gd_t, nm_u, cl_nI (show i < 2 ^ 31 by omega), e, if_neg h3, gd_t, nm_u, if_neg h5, k1, bnd_s, e', ez, bnd_s, nm_u]
/-- a bout of two in play -/
theorem A_fight (hS : St T n s) {i j x : Nat} (hx : x < 65536) (hi : i < n) (hj : j < n) (hij : i ≠ j) (ho : T 3 i ≠ T 3 j) (h0 : pE T n (nI i) (nI j) (wi (nI x) 0 65535) = 0) : Act (m_X5_bout (nI i) (nI j) (nI x)) T (nI (fgN 20 (min i j) (max i j) T (nI x))) true (fun T' => T' = fgT 20 (min i j) (max i j) T (nI x)) := by
  have h := hS.1
  intro M hh e H J
  obtain ⟨M', a, b, c, d⟩ := m_keep H
  have e1 : M' 1 = T := (d 1 (by decide) (by omega)).trans e
  have e3 : M' 3 = M 3 := d 3 (by decide) (by omega)
  have u1 : (uM M' 10 (wT (M' 10) 0 0 (nI x))) 1 = T := (uM_ne _ _ _ (by decide)).trans e1
  have u10 : (uM M' 10 (wT (M' 10) 0 0 (nI x))) 10 0 0 = nI x := by rw [uM_same, wT_ss]
  obtain ⟨M2, f1, f2, f3, f4⟩ := m_fight (k := 1) (s := s) (M := uM M' 10 (wT (M' 10) 0 0 (nI x))) (by decide) (by rw [u1]; exact hS) hi hj hij (by rw [u1]; exact ho) (by rw [u10]; exact ⟨x, hx, rfl⟩)
  rw [u1, u10] at f1 f2
  refine ⟨M2, ?_, ?_, ?_⟩
  · unfold m_X5_bout
    rw [e, s_boutError h, bnd_s, nm_u, ← e, uM_self, e, if_pos h0, a, bnd_s]
    unfold m_X0_begin
    rw [nm_u, bnd_s, nm_u, f1, bnd_s]
  · rw [f4 3 (by decide) (by decide), uM_ne _ _ _ (by decide), e3]; exact J
  · rw [e] at c
    have e12 : M2 12 = M' 12 := by rw [f4 12 (by decide) (by decide), uM_ne _ _ _ (by decide)]
    exact ⟨f2, hi_12 e12 b, top_fr e12 (fun q q1 q2 => by rw [f4 q (by omega) (by omega), uM_ne _ _ _ (by omega)]) c⟩
theorem A_bout (hS : St T n s) (a b c : Int32) : ∃ r g, Act (m_X5_bout a b c) T r g (Nx n s) ∧ RG r g := by
  have h := hS.1
  have hn := iv_n h
  by_cases h0 : pE T n a b (wi c 0 65535) = 0
  · obtain ⟨i, j, hi, hj, rfl, rfl, hv, hij, ho, h9i, h9j⟩ := pE_0 hn h0
    obtain ⟨x, _, hx, rfl⟩ := wi_n (b := 0) (c := 65535) hv (by decide) (by decide)
    obtain ⟨g1, g2, g3, g4, g5, g6⟩ := fight_all hS hi hj hij ho (x := nI x) ⟨x, by omega, rfl⟩ h9i h9j
    exact ⟨_, true, act_mono (A_fight hS (by omega) hi hj hij ho h0) (fun T' e => ⟨n, s + fgN 20 (min i j) (max i j) T (nI x), e ▸ g1, by omega⟩), rg_t (by omega)⟩
  · refine ⟨_, false, act_err (fun M e => ?_), pE_err h0⟩
    unfold m_X5_bout
    rw [e, s_boutError h, bnd_s, nm_u, ← e, uM_self, e, if_neg h0]
end ACT1
