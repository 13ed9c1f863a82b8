/-! HISTORY: the relation of both whole memories; keep and records -/
def Ag (S S' : Tm) : Prop := S' 0 10 = S 0 10 ∧ S' 0 11 = S 0 11 ∧ S' 0 12 = S 0 12 ∧ (∀ p, p < 6 → S' 1 p = S 1 p ∧ S' 2 p = S 2 p) ∧ ∀ a, 3 ≤ a → a ≤ 10 → ∀ c, c < 30 → S' a c = S a c
section AG
variable {S S' : Tm} {s s' : Nat → Int32} {n o o' : Nat}
theorem ag_cnt (hn : n ≤ 30) (h : Ag S S') : cnt (nby S') n = cnt (nby S) n := cnt_congr (fun c hc => by
  unfold nby
  rw [h.2.2.2.2 10 (by decide) (by decide) c (by omega)])
theorem ag_Iv (h : Ag S S') (hI : Iv S n) : Iv S' n := by
  have hn := iv_n hI
  have hc := ag_cnt hn h
  obtain ⟨h10, h11, h12, hp, hf⟩ := h
  have f3 : ∀ c, c < n → S' 3 c = S 3 c := fun c hc => hf 3 (by decide) (by decide) c (by omega)
  have f4 : ∀ c, c < n → S' 4 c = S 4 c := fun c hc => hf 4 (by decide) (by decide) c (by omega)
  have f7 : ∀ c, c < n → S' 7 c = S 7 c := fun c hc => hf 7 (by decide) (by decide) c (by omega)
  have f9 : ∀ c, c < n → S' 9 c = S 9 c := fun c hc => hf 9 (by decide) (by decide) c (by omega)
  have f10 : ∀ c, c < n → S' 10 c = S 10 c := fun c hc => hf 10 (by decide) (by decide) c (by omega)
  refine ⟨hn, h10.trans (iv_N hI), fun p hp2 => by rw [(hp p hp2).1]; exact iv_str hI p hp2, fun c hc => by rw [f3 c hc]; exact iv_own hI c hc, fun c hc => by rw [f4 c hc]; exact iv_hard hI c hc, fun c hc => by rw [f10 c hc]; exact iv_by hI c hc, fun c hc h9 => ?_, ?_, ?_⟩
  · rw [f10 c hc] at h9
    rw [f9 c hc]
    exact iv_by2 hI c hc h9
  · obtain ⟨v, l, h1, h2, h3⟩ := iv_v hI
    exact ⟨v, l, fun c hc => by rw [f7 c hc]; exact h1 c hc, h11.trans h2, by rw [hc]; exact h3⟩
  · obtain ⟨d, h1, h2⟩ := iv_d hI
    exact ⟨d, fun c hc2 => by rw [hc]; exact h1 c hc2, fun c j hc hj he => h2 c j hc hj (by rw [← f10 c hc]; exact he)⟩
theorem ag_RS (hn : n ≤ 30) (h : Ag S S') (hR : RS S s o n) : RS S' s o n := by
  have hc := ag_cnt hn h
  obtain ⟨h10, h11, h12, hp, hf⟩ := h
  obtain ⟨r0, r1, r2, r3, rp, rf⟩ := hR
  exact ⟨r0, by rw [h11]; exact r1, by rw [h12]; exact r2, by rw [hc]; exact r3, fun p hp2 => by rw [(hp p hp2).1, (hp p hp2).2]; exact rp p hp2, fun c hc2 f hf2 => by rw [hf (3 + f) (by omega) (by omega) c (by omega)]; exact rf c hc2 f hf2⟩
theorem rs_cong (hn : n ≤ 30) (h : ∀ i, i < 256 → s' (o' + i) = s (o + i)) (hR : RS S s o n) : RS S s' o' n := by
  obtain ⟨r0, r1, r2, r3, rp, rf⟩ := hR
  refine ⟨(h 0 (by decide)).trans r0, (h 1 (by decide)).trans r1, (h 2 (by decide)).trans r2, (h 3 (by decide)).trans r3, fun p hp => ⟨?_, ?_⟩, fun c hc f hf => ?_⟩
  · have e := h (4 + 2 * p) (by omega)
    rw [← Nat.add_assoc, ← Nat.add_assoc] at e
    exact e.trans (rp p hp).1
  · have e := h (5 + 2 * p) (by omega)
    rw [← Nat.add_assoc, ← Nat.add_assoc] at e
    exact e.trans (rp p hp).2
  · have e := h (16 + 8 * c + f) (by omega)
    have e1 : o' + (16 + 8 * c + f) = o' + 16 + 8 * c + f := by omega
    have e2 : o + (16 + 8 * c + f) = o + 16 + 8 * c + f := by omega
    rw [e1, e2] at e
    exact e.trans (rf c hc f hf)
end AG
def cpT (T S : Tm) : Tm := fun a j =>
  if a = 0 then (if j = 10 ∨ j = 11 ∨ j = 12 then S 0 j else T 0 j)
  else if a = 1 ∨ a = 2 then (if j < 6 then S a j else T a j)
  else if a ≤ 10 then (if j < 30 then S a j else T a j) else T a j
theorem cp_Ag (T S : Tm) : Ag S (cpT T S) := by
  refine ⟨by simp [cpT], by simp [cpT], by simp [cpT], fun p hp => ⟨by simp [cpT, hp], by simp [cpT, hp]⟩, fun a h1 h2 c hc => ?_⟩
  unfold cpT
  rw [if_neg (by omega), if_neg (by omega), if_pos h2, if_pos hc]
theorem cT_get (T : Tm) (a : Nat) (f : Nat → Int32) (n b j : Nat) : cT T a f n b j = if b = a then (if j < n then f j else T a j) else T b j := by
  unfold cT
  by_cases h : b = a
  · rw [if_pos h, if_pos h]
    unfold va_cpy
    by_cases h2 : j < n
    · rw [if_pos ⟨Nat.zero_le _, by omega⟩, if_pos h2]
      simp
    · rw [if_neg (fun e => h2 (by have := e.2; omega)), if_neg h2]
  · rw [if_neg h, if_neg h]
set_option maxHeartbeats 4000000 in
theorem s_copyFrom {k k2 : Nat} (hk : k2 ≠ k) (M : Mm) : m_X4_copyFrom k k2 M = some (0, uM M k (cpT (M k) (M k2))) := by
  unfold m_X4_copyFrom wM
  rw [nm_u, nm_u, nm_u, nm_u, nm_u, nm_u, nm_u, nm_u, nm_u, nm_u]
  simp only [uM_same, uM_ne _ _ _ hk, uM_uM]
  rw [nm_u, nm_u, nm_u, nm_u, nm_u, nm_u]
  simp only [uM_same, uM_ne _ _ _ hk, uM_uM]
  refine congrArg (fun z => some (0, uM M k z)) ?_
  funext a j
  simp only [wT_get, cT_get]
  unfold cpT
  have ha : a = 0 ∨ a = 1 ∨ a = 2 ∨ a = 3 ∨ a = 4 ∨ a = 5 ∨ a = 6 ∨ a = 7 ∨ a = 8 ∨ a = 9 ∨ a = 10 ∨ 10 < a := by omega
  rcases ha with rfl | rfl | rfl | rfl | rfl | rfl | rfl | rfl | rfl | rfl | rfl | ha
  · by_cases h10 : j = 10
    · subst h10; simp
    · by_cases h11 : j = 11
      · subst h11; simp
      · by_cases h12 : j = 12
        · subst h12; simp
        · simp [h10, h11, h12]
  · simp
  · simp
  · simp
  · simp
  · simp
  · simp
  · simp
  · simp
  · simp
  · simp
  · have n0 : a ≠ 0 := by omega
    have n1 : a ≠ 1 := by omega
    have n2 : a ≠ 2 := by omega
    have n3 : a ≠ 3 := by omega
    have n4 : a ≠ 4 := by omega
    have n5 : a ≠ 5 := by omega
    have n6 : a ≠ 6 := by omega
    have n7 : a ≠ 7 := by omega
    have n8 : a ≠ 8 := by omega
    have n9 : a ≠ 9 := by omega
    have n10 : a ≠ 10 := by omega
    have n11 : ¬ a ≤ 10 := by omega
    simp [n0, n1, n2, n3, n4, n5, n6, n7, n8, n9, n10, n11]
/-- the reference's copy of a state -/
def cpM (s : Nat → Int32) (f t : Nat) : Nat → Int32 := fun x => if 256 * t ≤ x ∧ x < 256 * t + 256 then s (256 * f + (x - 256 * t)) else s x
theorem s_copies_l {f t : Nat} (hf : f < 8) (ht : t < 8) (hne : f ≠ t) (TM : Tm) (s : Nat → Int32) : ∀ (m i : Nat) (s1 : Nat → Int32), i ≤ 256 → 256 - i < m → (∀ x, s1 x = if 256 * t ≤ x ∧ x < 256 * t + i then s (256 * f + (x - 256 * t)) else s x) → m_X6_copies_2 m (nI f) (nI t) (nI i) (sS TM s1) = some (0, sS TM (cpM s f t)) := by
  intro m
  induction m with
  | zero => intro i s1 _ h; omega
  | succ m ih =>
    intro i s1 hi hm h1
    rw [m_X6_copies_2.eq_2]
    by_cases h256 : 256 ≤ i
    · have e : i = 256 := by omega
      subst e
      rw [if_pos (by decide)]
      have e : s1 = cpM s f t := by
        funext x
        rw [h1 x]
        rfl
      rw [e]
    · have c : ¬ (256 : Int32) ≤ nI i := nI_ge (b := 256) (by omega) (by omega)
      have e1 : (256 : Int32) * nI f + nI i = nI (256 * f + i) := by
        rw [show (256 : Int32) = nI 256 from rfl, pk_mul, nI_add]
      have e2 : (256 : Int32) * nI t + nI i = nI (256 * t + i) := by
        rw [show (256 : Int32) = nI 256 from rfl, pk_mul, nI_add]
      rw [if_neg c, e1, e2, ib_nI (by omega) (by decide), ib_nI (by omega) (by decide), gd_t, nm_u, gd_t, nm_u, cl_nI (by omega), cl_nI (by omega), sS_1, sS_w, nI_p1]
      refine ih (i + 1) _ (by omega) (by omega) (fun x => ?_)
      have e3 : s1 (256 * f + i) = s (256 * f + i) := by
        rw [h1, if_neg (by omega)]
      unfold upd
      by_cases hx : x = 256 * t + i
      · rw [if_pos hx, if_pos (by omega), e3]
        have e4 : 256 * f + (x - 256 * t) = 256 * f + i := by omega
        rw [e4]
      · rw [if_neg hx, h1 x]
        by_cases h2 : 256 * t ≤ x ∧ x < 256 * t + i
        · rw [if_pos h2, if_pos (by omega)]
        · rw [if_neg h2, if_neg (by omega)]
theorem s_copies {f t : Nat} (hf : f < 8) (ht : t < 8) (hne : f ≠ t) (TM : Tm) : m_X6_copies (nI f) (nI t) TM = some (0, sS TM (cpM (TM 1) f t)) := by
  unfold m_X6_copies
  have := s_copies_l hf ht hne TM (TM 1) fu 0 (TM 1) (by omega) (by unfold fu; omega) (fun x => by rw [if_neg (by omega)])
  rw [sS_u] at this
  exact this
theorem cp_in {s : Nat → Int32} {f t i : Nat} (hi : i < 256) : cpM s f t (256 * t + i) = s (256 * f + i) := by
  unfold cpM
  rw [if_pos (by omega)]
  have e : 256 * t + i - 256 * t = i := by omega
  rw [e]
theorem cp_out {s : Nat → Int32} {f t x : Nat} (hx : x < 256 * t ∨ 256 * t + 256 ≤ x) : cpM s f t x = s x := by
  unfold cpM
  rw [if_neg (by omega)]
/-! THE RELATION -/
def Now (M : Mm) (TM : Tm) (n : Nat) : Prop := Iv (M 1) n ∧ RS (M 1) (TM 1) 0 n
def HiR (M : Mm) (TM : Tm) (h : Nat) (β : Nat → Nat) : Prop := h ≤ 5 ∧ M 12 0 1 = nI h ∧ TM 0 1 = nI h ∧ (∀ j, j < 5 → M 12 1 j = nI (β j) ∧ 4 ≤ β j ∧ β j ≤ 8) ∧ (∀ i j, i < 5 → j < 5 → β i = β j → i = j) ∧ ∀ j, j < h → ∃ n, Iv (M (β j)) n ∧ RS (M (β j)) (TM 1) (256 * (j + 1)) n
def SnR (M : Mm) (TM : Tm) : Prop := (M 0 0 7 = 0 ∧ TM 0 2 = 0) ∨ (M 0 0 7 = 1 ∧ TM 0 2 = 1 ∧ ∃ n, Iv (M 2) n ∧ RS (M 2) (TM 1) 1536 n)
def TxR (M : Mm) (TM : Tm) (L : Nat) : Prop := L ≤ 60 ∧ M 9 0 1 = nI L ∧ TM 0 4 = nI L ∧ ∀ j, j < L → ∃ ch, 32 ≤ ch ∧ ch ≤ 126 ∧ M 9 1 j = nI ch ∧ TM 2 j = nI ch
def Rst (M : Mm) (TM : Tm) : Prop := (∃ h β, HiR M TM h β) ∧ SnR M TM ∧ ∃ L, TxR M TM L
def Rel (M : Mm) (TM : Tm) : Prop := (∃ n, Now M TM n) ∧ Rst M TM
/-- what the rest of the relation speaks of -/
def FrM (M M' : Mm) : Prop := M' 12 = M 12 ∧ M' 0 0 7 = M 0 0 7 ∧ M' 2 = M 2 ∧ (∀ q, 4 ≤ q → q ≤ 8 → M' q = M q) ∧ M' 9 0 1 = M 9 0 1 ∧ ∀ j, M' 9 1 j = M 9 1 j
def FrT (TM TM' : Tm) : Prop := TM' 0 1 = TM 0 1 ∧ TM' 0 2 = TM 0 2 ∧ TM' 0 4 = TM 0 4 ∧ (∀ j, TM' 2 j = TM 2 j) ∧ ∀ x, 256 ≤ x → x < 1792 → TM' 1 x = TM 1 x
theorem hi_fr {M M' : Mm} {TM TM' : Tm} {h : Nat} {β : Nat → Nat} (h1 : FrM M M') (h2 : FrT TM TM') (hH : HiR M TM h β) : HiR M' TM' h β := by
  obtain ⟨a1, a2, a3, a4, a5, a6⟩ := h1
  obtain ⟨b1, b2, b3, b4, b5⟩ := h2
  obtain ⟨c1, c2, c3, c4, c5, c6⟩ := hH
  refine ⟨c1, by rw [a1]; exact c2, by rw [b1]; exact c3, by rw [a1]; exact c4, c5, fun j hj => ?_⟩
  obtain ⟨n, i1, i2⟩ := c6 j hj
  have hb := c4 j (by omega)
  refine ⟨n, by rw [a4 _ hb.2.1 hb.2.2]; exact i1, ?_⟩
  rw [a4 _ hb.2.1 hb.2.2]
  exact rs_cong (iv_n i1) (fun i hi => b5 _ (by omega) (by omega)) i2
theorem sn_fr {M M' : Mm} {TM TM' : Tm} (h1 : FrM M M') (h2 : FrT TM TM') (h : SnR M TM) : SnR M' TM' := by
  obtain ⟨a1, a2, a3, a4, a5, a6⟩ := h1
  obtain ⟨b1, b2, b3, b4, b5⟩ := h2
  rcases h with ⟨h, h'⟩ | ⟨h, h', n, i1, i2⟩
  · exact Or.inl ⟨a2.trans h, b2.trans h'⟩
  · exact Or.inr ⟨a2.trans h, b2.trans h', n, by rw [a3]; exact i1, by rw [a3]; exact rs_cong (iv_n i1) (fun i hi => b5 _ (by omega) (by omega)) i2⟩
theorem tx_fr {M M' : Mm} {TM TM' : Tm} {L : Nat} (h1 : FrM M M') (h2 : FrT TM TM') (h : TxR M TM L) : TxR M' TM' L := by
  obtain ⟨a1, a2, a3, a4, a5, a6⟩ := h1
  obtain ⟨b1, b2, b3, b4, b5⟩ := h2
  obtain ⟨c1, c2, c3, c4⟩ := h
  exact ⟨c1, a5.trans c2, b3.trans c3, fun j hj => by rw [a6, b4]; exact c4 j hj⟩
theorem rst_fr {M M' : Mm} {TM TM' : Tm} (h1 : FrM M M') (h2 : FrT TM TM') (h : Rst M TM) : Rst M' TM' := by
  obtain ⟨⟨hh, β, a⟩, b, L, c⟩ := h
  exact ⟨⟨hh, β, hi_fr h1 h2 a⟩, sn_fr h1 h2 b, L, tx_fr h1 h2 c⟩
theorem frM_rf (M : Mm) : FrM M M := ⟨rfl, rfl, rfl, fun _ _ _ => rfl, rfl, fun _ => rfl⟩
theorem frT_rf (T : Tm) : FrT T T := ⟨rfl, rfl, rfl, fun _ => rfl, fun _ _ _ => rfl⟩
theorem frM_tr {M M' M'' : Mm} (h : FrM M M') (h' : FrM M' M'') : FrM M M'' := ⟨h'.1.trans h.1, h'.2.1.trans h.2.1, h'.2.2.1.trans h.2.2.1, fun q a b => (h'.2.2.2.1 q a b).trans (h.2.2.2.1 q a b), h'.2.2.2.2.1.trans h.2.2.2.2.1, fun j => (h'.2.2.2.2.2 j).trans (h.2.2.2.2.2 j)⟩
theorem frT_tr {T T' T'' : Tm} (h : FrT T T') (h' : FrT T' T'') : FrT T T'' := ⟨h'.1.trans h.1, h'.2.1.trans h.2.1, h'.2.2.1.trans h.2.2.1, fun j => (h'.2.2.2.1 j).trans (h.2.2.2.1 j), fun x a b => (h'.2.2.2.2 x a b).trans (h.2.2.2.2 x a b)⟩
theorem frM_u {M : Mm} {k : Nat} {T : Tm} (hk : k = 1 ∨ k = 3 ∨ k = 10 ∨ k = 11) : FrM M (uM M k T) := by
  refine ⟨uM_ne _ _ _ (by omega), by rw [uM_ne _ _ _ (by omega)], uM_ne _ _ _ (by omega), fun q h1 h2 => uM_ne _ _ _ (by omega), by rw [uM_ne _ _ _ (by omega)], fun j => by rw [uM_ne _ _ _ (by omega)]⟩
theorem frT_s {TM : Tm} {s : Nat → Int32} (h : ∀ x, 256 ≤ x → x < 1792 → s x = TM 1 x) : FrT TM (sS TM s) := ⟨rfl, rfl, rfl, fun _ => rfl, h⟩
