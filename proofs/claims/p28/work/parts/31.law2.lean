/-! the law's actions and its loop -/
section LAW2
variable {T : Tm} {n s : Nat}
/-- an action of the law; 'bo': it may be a boast -/
def RB (bo : Bool) (r : Int32) (g : Bool) : Prop := RG r g ∨ (bo = true ∧ g = true ∧ r = (-5))
theorem act_b {f : Mm → Option (Int32 × Mm)} {r : Int32} {g : Bool} {ok : Tm → Prop} (h : Act f T r g ok) : Act (fun M => bnd (f M) fun r M' => some (r, M')) T r g ok := by
  intro M hh e H J
  obtain ⟨M', a, b⟩ := h M hh e H J
  exact ⟨M', by show bnd (f M) _ = _; rw [a, bnd_s], b⟩
/-- from 9 on, on what the first number names -/
def isB (x : Int32) (q : Nat) : Prop := m_L_low x 17 M00 = some (nI q, M00)
theorem low_one (a : Int32) (m : Nat) (h0 : 1 ≤ m) (hm : m < 2 ^ 31) : ∃ t, t < m ∧ ∀ M, m_L_low a (nI m) M = some (nI t, M) := by
  obtain ⟨t, h1, h2⟩ := q_low a h0 hm M00
  refine ⟨t, h1, fun M => ?_⟩
  obtain ⟨t', h1', h2'⟩ := q_low a h0 hm M
  have e : m_L_low a (nI m) M = (match m_L_low a (nI m) M00 with
    | some (r, _) => some (r, M)
    | none => none) := by
    unfold m_L_low
    cases (!decide (nI m = 0)) <;> rfl
  rw [e, h2]
set_option maxHeartbeats 4000000 in
theorem A_act (hS : St T n s) (a b : Int32) {q : Nat} (hq : q < 17) (eq : ∀ M, m_L_low a 17 M = some (nI q, M)) : ∃ r g, Act (m_L_act a b) T r g (Nx n s) ∧ RB (decide (q = 3 ∨ q = 8)) r g := by
  obtain ⟨k, hk, ek⟩ := low_one (a >>> (4 &&& 31)) 9 (by decide) (by decide)
  obtain ⟨m, hm, em⟩ := low_one (a >>> (8 &&& 31)) 9 (by decide) (by decide)
  obtain ⟨k4, hk4, ek4⟩ := low_one (a >>> (4 &&& 31)) 4 (by decide) (by decide)
  obtain ⟨b9, hb9, eb9⟩ := low_one b 9 (by decide) (by decide)
  obtain ⟨b4, hb4, eb4⟩ := low_one b 4 (by decide) (by decide)
  obtain ⟨b6, hb6, eb6⟩ := low_one b 6 (by decide) (by decide)
  obtain ⟨b2, hb2, eb2⟩ := low_one b 2 (by decide) (by decide)
  obtain ⟨b3, hb3, eb3⟩ := low_one (b >>> (1 &&& 31)) 3 (by decide) (by decide)
  obtain ⟨bx, hbx, ebx⟩ := low_one b 65536 (by decide) (by decide)
  have fk : m_L_low (a >>> (4 &&& 31)) 9 M00 = some (nI k, M00) := ek M00
  have fm : m_L_low (a >>> (8 &&& 31)) 9 M00 = some (nI m, M00) := em M00
  have fk4 : m_L_low (a >>> (4 &&& 31)) 4 M00 = some (nI k4, M00) := ek4 M00
  have fb9 : m_L_low b 9 M00 = some (nI b9, M00) := eb9 M00
  have fb4 : m_L_low b 4 M00 = some (nI b4, M00) := eb4 M00
  have fb6 : m_L_low b 6 M00 = some (nI b6, M00) := eb6 M00
  have fb2 : m_L_low b 2 M00 = some (nI b2, M00) := eb2 M00
  have fb3 : m_L_low (b >>> (1 &&& 31)) 3 M00 = some (nI b3, M00) := eb3 M00
  have fbx : m_L_low b 65536 M00 = some (nI bx, M00) := ebx M00
  have key : ∀ f : Mm → Option (Int32 × Mm), (∀ M, m_L_act a b M = bnd (f M) fun r M' => some (r, M')) → (∃ r g, Act f T r g (Nx n s) ∧ RB (decide (q = 3 ∨ q = 8)) r g) → ∃ r g, Act (m_L_act a b) T r g (Nx n s) ∧ RB (decide (q = 3 ∨ q = 8)) r g := by
    intro f hf ⟨r, g, h1, h2⟩
    have e : m_L_act a b = fun M => bnd (f M) fun r M' => some (r, M') := funext hf
    rw [e]
    exact ⟨r, g, act_b h1, h2⟩
  have or1 : ∀ f : Mm → Option (Int32 × Mm), (∃ r g, Act f T r g (Nx n s) ∧ RG r g) → ∃ r g, Act f T r g (Nx n s) ∧ RB (decide (q = 3 ∨ q = 8)) r g := fun f ⟨r, g, h1, h2⟩ => ⟨r, g, h1, Or.inl h2⟩
  have hqc : q = 0 ∨ q = 1 ∨ q = 2 ∨ q = 3 ∨ q = 4 ∨ q = 5 ∨ q = 6 ∨ q = 7 ∨ q = 8 ∨ q = 9 ∨ q = 10 ∨ q = 11 ∨ q = 12 ∨ 13 ≤ q := by omega
  have eqM := eq M00
  rcases hqc with rfl | rfl | rfl | rfl | rfl | rfl | rfl | rfl | rfl | rfl | rfl | rfl | rfl | h13
  · refine key (m_X5_thread (nI k4) (1 + nI b9)) (fun M => ?_) (or1 _ (A_thread hS _ _))
    unfold m_L_act m_L_act_92
    rw [fk, bnd_s, fm, bnd_s, eqM, bnd_s, if_pos (by decide), fk4, bnd_s, fb9, bnd_s]
  · refine key (m_X5_thread (nI k4) (1 + nI b9)) (fun M => ?_) (or1 _ (A_thread hS _ _))
    unfold m_L_act m_L_act_92
    rw [fk, bnd_s, fm, bnd_s, eqM, bnd_s, if_neg (by decide), if_pos (by decide), fk4, bnd_s, fb9, bnd_s]
  · refine key (m_X5_give (nI k4) (1 + nI b9)) (fun M => ?_) (or1 _ (A_give hS _ _))
    unfold m_L_act
    rw [fk, bnd_s, fm, bnd_s, eqM, bnd_s, if_neg (by decide), if_neg (by decide), if_pos (by decide), fk4, bnd_s, fb9, bnd_s]
  · refine key (m_X5_boast (nI k) (nI b4)) (fun M => ?_) ?_
    · unfold m_L_act
      rw [fk, bnd_s, fm, bnd_s, eqM, bnd_s, if_neg (by decide), if_neg (by decide), if_neg (by decide), if_pos (by decide), fb4, bnd_s]
    · obtain ⟨r, g, h1, h2⟩ := A_boast hS (nI k) (nI b4)
      exact ⟨r, g, h1, h2.elim Or.inl (fun w => Or.inr ⟨by decide, w⟩)⟩
  · refine key (m_X5_doubt (nI b6) (nI k)) (fun M => ?_) (or1 _ (A_doubt hS _ _))
    unfold m_L_act m_L_act_143
    rw [fk, bnd_s, fm, bnd_s, eqM, bnd_s, if_neg (by decide), if_neg (by decide), if_neg (by decide), if_neg (by decide), if_pos (by decide), fb6, bnd_s]
  · refine key (m_X5_doubt (nI b6) (nI k)) (fun M => ?_) (or1 _ (A_doubt hS _ _))
    unfold m_L_act m_L_act_143
    rw [fk, bnd_s, fm, bnd_s, eqM, bnd_s, if_neg (by decide), if_neg (by decide), if_neg (by decide), if_neg (by decide), if_neg (by decide), if_pos (by decide), fb6, bnd_s]
  · refine key (m_X5_mend (nI k)) (fun M => ?_) (or1 _ (A_mend hS _))
    unfold m_L_act m_L_act_155
    rw [fk, bnd_s, fm, bnd_s, eqM, bnd_s, if_neg (by decide), if_neg (by decide), if_neg (by decide), if_neg (by decide), if_neg (by decide), if_neg (by decide), if_pos (by decide)]
  · refine key (m_X5_mend (nI k)) (fun M => ?_) (or1 _ (A_mend hS _))
    unfold m_L_act m_L_act_155
    rw [fk, bnd_s, fm, bnd_s, eqM, bnd_s, if_neg (by decide), if_neg (by decide), if_neg (by decide), if_neg (by decide), if_neg (by decide), if_neg (by decide), if_neg (by decide), if_pos (by decide)]
  · by_cases h2 : b2 = 0
    · refine key (m_X5_stamp (nI k)) (fun M => ?_) (or1 _ (A_stamp hS _))
      have c : nI b2 = 0 := by rw [h2]; rfl
      unfold m_L_act
      rw [fk, bnd_s, fm, bnd_s, eqM, bnd_s, if_neg (by decide), if_neg (by decide), if_neg (by decide), if_neg (by decide), if_neg (by decide), if_neg (by decide), if_neg (by decide), if_neg (by decide), if_pos (by decide), fb2, bnd_s, if_pos c]
    · refine key (m_X5_boast (nI k) (nI b3)) (fun M => ?_) ?_
      · have c : ¬ nI b2 = 0 := nI_ne0 (by omega) (by omega)
        unfold m_L_act
        rw [fk, bnd_s, fm, bnd_s, eqM, bnd_s, if_neg (by decide), if_neg (by decide), if_neg (by decide), if_neg (by decide), if_neg (by decide), if_neg (by decide), if_neg (by decide), if_neg (by decide), if_pos (by decide), fb2, bnd_s, if_neg c, fb3, bnd_s]
      · obtain ⟨r, g, h1, h2⟩ := A_boast hS (nI k) (nI b3)
        exact ⟨r, g, h1, h2.elim Or.inl (fun w => Or.inr ⟨by decide, w⟩)⟩
  · refine key (m_X5_bout (nI k) (nI m) (nI bx)) (fun M => ?_) (or1 _ (A_bout hS _ _ _))
    unfold m_L_act m_L_act_190
    rw [fk, bnd_s, fm, bnd_s, eqM, bnd_s, if_neg (by decide), if_neg (by decide), if_neg (by decide), if_neg (by decide), if_neg (by decide), if_neg (by decide), if_neg (by decide), if_neg (by decide), if_neg (by decide), if_pos (by decide), fbx, bnd_s]
  · refine key (m_X5_bout (nI k) (nI m) (nI bx)) (fun M => ?_) (or1 _ (A_bout hS _ _ _))
    unfold m_L_act m_L_act_190
    rw [fk, bnd_s, fm, bnd_s, eqM, bnd_s, if_neg (by decide), if_neg (by decide), if_neg (by decide), if_neg (by decide), if_neg (by decide), if_neg (by decide), if_neg (by decide), if_neg (by decide), if_neg (by decide), if_neg (by decide), if_pos (by decide), fbx, bnd_s]
  · refine key (m_X5_round (nI bx)) (fun M => ?_) ?_
    · unfold m_L_act m_L_act_204
      rw [fk, bnd_s, fm, bnd_s, eqM, bnd_s, if_neg (by decide), if_neg (by decide), if_neg (by decide), if_neg (by decide), if_neg (by decide), if_neg (by decide), if_neg (by decide), if_neg (by decide), if_neg (by decide), if_neg (by decide), if_neg (by decide), if_pos (by decide), fbx, bnd_s]
    · have l6 := cnt_le (snd T n) 6
      exact ⟨_, true, act_mono (A_round hS hbx) (fun T' ⟨s', h1, h2, h3⟩ => ⟨n, s', h1, by omega⟩), Or.inl (rg_t (by omega))⟩
  · refine key (m_X5_round (nI bx)) (fun M => ?_) ?_
    · unfold m_L_act m_L_act_204
      rw [fk, bnd_s, fm, bnd_s, eqM, bnd_s, if_neg (by decide), if_neg (by decide), if_neg (by decide), if_neg (by decide), if_neg (by decide), if_neg (by decide), if_neg (by decide), if_neg (by decide), if_neg (by decide), if_neg (by decide), if_neg (by decide), if_neg (by decide), if_pos (by decide), fbx, bnd_s]
    · have l6 := cnt_le (snd T n) 6
      exact ⟨_, true, act_mono (A_round hS hbx) (fun T' ⟨s', h1, h2, h3⟩ => ⟨n, s', h1, by omega⟩), Or.inl (rg_t (by omega))⟩
  · refine key (m_X5_strike (nI k) (nI m) (1 + nI b9)) (fun M => ?_) (or1 _ (A_strike hS _ _ _))
    have cn : ∀ v : Nat, v ≤ 12 → ¬ nI q = nI v := fun v hv e => by
      have := nI_inj (by omega) (by omega) e
      omega
    unfold m_L_act
    rw [fk, bnd_s, fm, bnd_s, eqM, bnd_s, if_neg (show ¬ nI q = (0 : Int32) from cn 0 (by decide)), if_neg (show ¬ nI q = (1 : Int32) from cn 1 (by decide)), if_neg (show ¬ nI q = (2 : Int32) from cn 2 (by decide)), if_neg (show ¬ nI q = (3 : Int32) from cn 3 (by decide)), if_neg (show ¬ nI q = (4 : Int32) from cn 4 (by decide)), if_neg (show ¬ nI q = (5 : Int32) from cn 5 (by decide)), if_neg (show ¬ nI q = (6 : Int32) from cn 6 (by decide)), if_neg (show ¬ nI q = (7 : Int32) from cn 7 (by decide)), if_neg (show ¬ nI q = (8 : Int32) from cn 8 (by decide)), if_neg (show ¬ nI q = (9 : Int32) from cn 9 (by decide)), if_neg (show ¬ nI q = (10 : Int32) from cn 10 (by decide)), if_neg (show ¬ nI q = (11 : Int32) from cn 11 (by decide)), if_neg (show ¬ nI q = (12 : Int32) from cn 12 (by decide)), fb9, bnd_s]
end LAW2
