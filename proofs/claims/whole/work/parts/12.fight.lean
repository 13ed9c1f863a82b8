/-! BOUTS -/
def nx (x : Int32) : Int32 := ((25173 * x) + 13849) - ((25173 * x) + 13849) / 65536 * 65536
def J2 (T : Tm) (a b : Nat) : Prop := (T 9 a = 2 → T 9 b = 2 → T 10 a = (-5) ∧ T 10 b = (-5)) ∧ (T 9 a = 2 → ¬ T 9 b = 2 → T 10 a = nI b) ∧ (T 9 b = 2 → ¬ T 9 a = 2 → T 10 b = nI a)
theorem J2_sym {T : Tm} {a b : Nat} (h : J2 T a b) : J2 T b a := ⟨fun h1 h2 => ⟨(h.1 h2 h1).2, (h.1 h2 h1).1⟩, h.2.2, h.2.1⟩
section FIGHT
variable {T TM : Tm} {n : Nat}
theorem g65536 : (!decide ((65536 : Int32) = 0)) = true := by decide
theorem g7282 : (!decide ((7282 : Int32) = 0)) = true := by decide
theorem s_swing (T : Tm) : m_X0_swing T = some (1 + nx (T 0 0) / 7282, wT T 0 0 (nx (T 0 0))) := by
  unfold m_X0_swing m_X0_next
  rw [nm_u, g65536, gd_t, nm_u, nm_u, bnd_s, wT_ss, g7282, gd_t]
  rfl
theorem s_next (T : Tm) : m_X0_next T = some (nx (T 0 0), wT T 0 0 (nx (T 0 0))) := by
  unfold m_X0_next
  rw [nm_u, g65536, gd_t, nm_u, nm_u, wT_ss]
  rfl
theorem s_goesOn (TM : Tm) : m_X6_goesOn TM = some (0, wT TM 0 5 (nx (TM 0 5))) := by
  unfold m_X6_goesOn
  rw [nm_u, g65536, gd_t, nm_u]
  rfl
theorem J2_hit (h : Iv T n) {a b : Nat} (ha : a < n) (hb : b < n) (hab : a ≠ b) (h9a : T 9 a = 0) (h9b : T 9 b = 0) (w : Int32) : J2 (hitT T a b w) a b := by
  have hba : b ≠ a := fun e => hab e.symm
  have e10a := iv_by0 h ha h9a
  have e10b := iv_by0 h hb h9b
  have n12 : ¬ ((1 : Int32) = 2) := by decide
  have n02 : ¬ ((0 : Int32) = 2) := by decide
  by_cases hA : hca T a b w = 100 <;> by_cases hB : hcb T a b w = 100 <;> by_cases hWA : hwa T a w = 20 <;> by_cases hWB : hwb T b = 20 <;> simp [J2, hitT, hA, hB, hWA, hWB, hba, e10a, e10b]
theorem hit_9 {a b : Nat} (w : Int32) (T : Tm) : (hitT T a b w) 3 = T 3 := hit_q T a b w (by decide) (by decide) (by decide) (by decide) (by decide) (by decide) (by decide)
/-- what a fight keeps -/
def FK (k o : Nat) (M M' : Mm) (TM TM' : Tm) : Prop :=
  (∀ q, q ≠ k → q ≠ 10 → M' q = M q) ∧ (M' k) 3 = (M k) 3 ∧ (M' 10 0 0 = TM' 0 5 ∧ ∀ P : Int32 → Prop, (∀ y, P y → P (nx y)) → P (TM 0 5) → P (TM' 0 5)) ∧ (∀ q, q ≠ 0 → q ≠ 1 → TM' q = TM q) ∧ (∀ j, j ≠ 5 → TM' 0 j = TM 0 j) ∧ (∀ x, x < o ∨ o + 256 ≤ x → TM' 1 x = TM 1 x)
set_option maxHeartbeats 4000000 in
theorem s_fight_l {k o : Nat} (hk : k ≠ 10) (ho : o + 256 ≤ 2048) : ∀ (m i a b : Nat) (one other : Int32) (M : Mm) (TM : Tm), i ≤ 20 → 20 - i < m → Iv (M k) n → RS (M k) (TM 1) o n → M 10 0 0 = TM 0 5 → a < n → b < n → a ≠ b → ((one = nI a ∧ other = nI b) ∨ (one = nI b ∧ other = nI a)) →
    ∃ (r : Nat) (M' : Mm) (TM' : Tm), m_X4_fight_17 k m (nI a) (nI b) (nI i) M = some (nI r, M') ∧ m_X6_fights_18 m (nI o) one other (nI a) (nI b) (nI i) TM = some (nI r, TM') ∧ r ≤ 20 ∧ Iv (M' k) n ∧ RS (M' k) (TM' 1) o n ∧ FK k o M M' TM TM' ∧ (J2 (M k) a b → J2 (M' k) a b) := by
  intro m
  induction m with
  | zero => intro i a b one other M TM _ h; omega
  | succ m ih =>
    intro i a b one other M TM hi hm h hR hx ha hb hab hoo
    have hn := iv_n h
    have hba : b ≠ a := fun e => hab e.symm
    rw [m_X4_fight_17.eq_2, m_X6_fights_18.eq_2]
    by_cases h20 : 20 ≤ i
    · have e : i = 20 := by omega
      subst e
      have c : (20 : Int32) ≤ nI 20 := by decide
      rw [if_pos c, if_pos c]
      exact ⟨20, M, TM, rfl, rfl, Nat.le_refl _, h, hR, ⟨fun _ _ _ => rfl, rfl, ⟨hx, fun _ _ hP => hP⟩, fun _ _ _ => rfl, fun _ _ => rfl, fun _ _ => rfl⟩, fun hJ => hJ⟩
    · have c : ¬ (20 : Int32) ≤ nI i := nI_ge (b := 20) (by omega) (by omega)
      rw [if_neg c, if_neg c, s_areInPlay h ha hb, bnd_s, nm_u, uM_self]
      have fa := rsf hR 6 (by decide) ha
      have fb := rsf hR 6 (by decide) hb
      have fa' : TM 1 (o + 16 + 8 * a + 6) = (M k) 9 a := fa
      have fb' : TM 1 (o + 16 + 8 * b + 6) = (M k) 9 b := fb
      -- the reference's test, whichever way round
      have hM : ∀ X Y : Option (Int32 × Tm), (bnd (m_X6_at (nI o) one M00) fun r2 _ => gd (ib (r2 + 6) 2048) <| nm (TM 1 ((r2 + 6).toNatClampNeg)) fun v3 => if v3 = 0 then (bnd (m_X6_at (nI o) other M00) fun r5 _ => gd (ib (r5 + 6) 2048) <| nm (TM 1 ((r5 + 6).toNatClampNeg)) fun v6 => if v6 = 0 then X else Y) else Y) = if (M k) 9 a = 0 ∧ (M k) 9 b = 0 then X else Y := by
        intro X Y
        rcases hoo with ⟨rfl, rfl⟩ | ⟨rfl, rfl⟩
        · rw [s_at, bnd_s, s_at, bnd_s, nI_p6, nI_p6, ib_nI (by omega) (by decide), ib_nI (by omega) (by decide), gd_t, nm_u, gd_t, nm_u, cl_nI (by omega), cl_nI (by omega), fa', fb']
          by_cases h1 : (M k) 9 a = 0 <;> by_cases h2 : (M k) 9 b = 0 <;> simp [h1, h2]
        · rw [s_at, bnd_s, s_at, bnd_s, nI_p6, nI_p6, ib_nI (by omega) (by decide), ib_nI (by omega) (by decide), gd_t, nm_u, gd_t, nm_u, cl_nI (by omega), cl_nI (by omega), fa', fb']
          by_cases h1 : (M k) 9 a = 0 <;> by_cases h2 : (M k) 9 b = 0 <;> simp [h1, h2]
      rw [hM]
      by_cases hp : (M k) 9 a = 0 ∧ (M k) 9 b = 0
      · obtain ⟨h9a, h9b⟩ := hp
        have eb : bI (decide ((M k) 9 a = 0) && decide ((M k) 9 b = 0)) = 1 := by rw [decide_eq_true h9a, decide_eq_true h9b]; rfl
        rw [eb, if_neg (by decide), if_pos ⟨h9a, h9b⟩, s_swing, bnd_s, nm_u]
        have e8 : uM M 10 (wT (M 10) 0 0 (nx (M 10 0 0))) k = M k := uM_ne _ _ _ hk
        rw [e8, s_hit h ha hb hab h9a h9b, bnd_s, nm_u, s_goesOn, bnd_s, nm_u, wT_ss, g7282, gd_t, hx]
        have hR9 : RS (M k) ((wT TM 0 5 (nx (TM 0 5))) 1) o n := by
          have e : (wT TM 0 5 (nx (TM 0 5))) 1 = TM 1 := wT_ne _ _ _ (by decide)
          rw [e]; exact hR
        rw [s_strikes h hR9 ho ha hb hab, bnd_s, nI_p1]
        generalize hw : 1 + nx (TM 0 5) / 7282 = w
        have eT : (wT TM 0 5 (nx (TM 0 5))) 1 = TM 1 := wT_ne _ _ _ (by decide)
        rw [eT]
        have h' : Iv (hitT (M k) a b w) n := hit_Iv h ha hb hab h9a h9b w
        have hR' : RS (hitT (M k) a b w) (sK (M k) (TM 1) o a b w) o n := hit_RS h hR ha hb hab h9a h9b w
        obtain ⟨r, M', TM', e1, e2, hr, i1, i2, ⟨g1, g2, g3, g4, g5, g6⟩, i3⟩ := ih (i + 1) b a one other (uM (uM M 10 (wT (M 10) 0 0 (nx (TM 0 5)))) k (hitT (M k) a b w)) (sS (wT TM 0 5 (nx (TM 0 5))) (sK (M k) (TM 1) o a b w)) (by omega) (by omega) (by rw [uM_same]; exact h') (by rw [uM_same, sS_1]; exact hR')
          (by rw [uM_ne _ _ _ (fun e => hk e.symm), uM_same, wT_ss, sS_n _ _ (by decide), wT_ss]) hb ha hba (by rcases hoo with ⟨x1, x2⟩ | ⟨x1, x2⟩; exact Or.inr ⟨x1, x2⟩; exact Or.inl ⟨x1, x2⟩)
        refine ⟨r, M', TM', e1, e2, hr, i1, i2, ⟨fun q q1 q2 => ?_, ?_, ⟨g3.1, fun P hP h0 => g3.2 P hP ?_⟩, fun q q1 q2 => ?_, fun j hj => ?_, fun x hx2 => ?_⟩, fun _ => J2_sym (i3 (by rw [uM_same]; exact J2_sym (J2_hit h ha hb hab h9a h9b w)))⟩
        · rw [g1 q q1 q2, uM_ne _ _ _ q1, uM_ne _ _ _ q2]
        · rw [g2, uM_same, hit_9]
        · rw [sS_n _ _ (by decide), wT_ss]
          exact hP _ h0
        · rw [g4 q q1 q2, sS_n _ _ q2, wT_ne _ _ _ q1]
        · rw [g5 j hj, sS_n _ _ (by decide), wT_sn _ _ _ hj]
        · rw [g6 x hx2, sS_1, sK_out (by omega) (by omega) hab w (by omega)]
      · have eb : bI (decide ((M k) 9 a = 0) && decide ((M k) 9 b = 0)) = 0 := by
          by_cases h1 : (M k) 9 a = 0
          · have h2 : ¬ (M k) 9 b = 0 := fun e => hp ⟨h1, e⟩
            rw [decide_eq_false h2, Bool.and_false]; rfl
          · rw [decide_eq_false h1, Bool.false_and]; rfl
        rw [eb, if_pos rfl, if_neg hp]
        exact ⟨i, M, TM, rfl, rfl, hi, h, hR, ⟨fun _ _ _ => rfl, rfl, ⟨hx, fun _ _ hP => hP⟩, fun _ _ _ => rfl, fun _ _ => rfl, fun _ _ => rfl⟩, fun hJ => hJ⟩
theorem mn_nI {a b : Nat} (ha : a < 2 ^ 31) (hb : b < 2 ^ 31) : mn (nI a) (nI b) = nI (min a b) := by
  unfold mn
  by_cases h : b < a
  · rw [if_pos (nI_lt h ha), Nat.min_eq_right (by omega)]
  · rw [if_neg (nI_nlt (by omega) hb), Nat.min_eq_left (by omega)]
theorem mx_nI {a b : Nat} (ha : a < 2 ^ 31) (hb : b < 2 ^ 31) : mx (nI a) (nI b) = nI (max a b) := by
  unfold mx
  by_cases h : a < b
  · rw [if_pos (nI_lt h hb), Nat.max_eq_right (by omega)]
  · rw [if_neg (nI_nlt (by omega) ha), Nat.max_eq_left (by omega)]
theorem s_fight0 {k o : Nat} (hk : k ≠ 10) (ho : o + 256 ≤ 2048) {a b : Nat} {M : Mm} {TM : Tm} (h : Iv (M k) n) (hR : RS (M k) (TM 1) o n) (hx : M 10 0 0 = TM 0 5) (ha : a < n) (hb : b < n) (hab : a ≠ b) :
    ∃ (r : Nat) (M' : Mm) (TM' : Tm), m_X4_fight k (nI a) (nI b) M = some (nI r, M') ∧ m_X6_fights (nI o) (nI a) (nI b) TM = some (nI r, TM') ∧ r ≤ 20 ∧ Iv (M' k) n ∧ RS (M' k) (TM' 1) o n ∧ FK k o M M' TM TM' ∧ (J2 (M k) a b → J2 (M' k) a b) := by
  have hn := iv_n h
  have h0 : (0 : Int32) = nI 0 := rfl
  unfold m_X4_fight m_X6_fights
  rw [nm_u, nm_u, mn_nI (by omega) (by omega), mx_nI (by omega) (by omega), s_less, bnd_s, mn_nI (by omega) (by omega), nI_add, pk_sub (by omega), h0]
  have e1 : a + b - min a b = max a b := by omega
  rw [e1]
  by_cases hlt : a < b
  · rw [Nat.min_eq_left (by omega), Nat.max_eq_right (by omega)]
    exact s_fight_l hk ho fu 0 a b (nI a) (nI b) M TM (by omega) (by unfold fu; omega) h hR hx ha hb hab (Or.inl ⟨rfl, rfl⟩)
  · rw [Nat.min_eq_right (by omega), Nat.max_eq_left (by omega)]
    obtain ⟨r, M', TM', x1, x2, x3, x4, x5, x6, x7⟩ := s_fight_l hk ho fu 0 b a (nI a) (nI b) M TM (by omega) (by unfold fu; omega) h hR hx hb ha (fun e => hab e.symm) (Or.inr ⟨rfl, rfl⟩)
    exact ⟨r, M', TM', x1, x2, x3, x4, x5, x6, fun hJ => J2_sym (x7 (J2_sym hJ))⟩
theorem s_fight {k o : Nat} (hk : k ≠ 10) (ho : o + 256 ≤ 2048) {a b : Nat} {M : Mm} {TM : Tm} (h : Iv (M k) n) (hR : RS (M k) (TM 1) o n) (hx : M 10 0 0 = TM 0 5) (ha : a < n) (hb : b < n) (hab : a ≠ b) (hJ : J2 (M k) a b) :
    ∃ (r : Nat) (M' : Mm) (TM' : Tm), m_X4_fight k (nI a) (nI b) M = some (nI r, M') ∧ m_X6_fights (nI o) (nI a) (nI b) TM = some (nI r, TM') ∧ r ≤ 20 ∧ Iv (M' k) n ∧ RS (M' k) (TM' 1) o n ∧ FK k o M M' TM TM' ∧ J2 (M' k) a b := by
  obtain ⟨r, M', TM', x1, x2, x3, x4, x5, x6, x7⟩ := s_fight0 hk ho h hR hx ha hb hab
  exact ⟨r, M', TM', x1, x2, x3, x4, x5, x6, x7 hJ⟩
theorem J2_play (h : Iv T n) {a b : Nat} (h9a : T 9 a = 0) (h9b : T 9 b = 0) : J2 T a b := by
  have n02 : ¬ ((0 : Int32) = 2) := by decide
  refine ⟨fun e => ?_, fun e => ?_, fun e => ?_⟩
  · rw [h9a] at e; exact absurd e n02
  · rw [h9a] at e; exact absurd e n02
  · rw [h9b] at e; exact absurd e n02
end FIGHT
