/-! THE RELATION behind a strike -/
section HR
variable {T : Tm} {s : Nat → Int32} {n o : Nat}
theorem iv_by0 (h : Iv T n) {a : Nat} (ha : a < n) (h9 : T 9 a = 0) : T 10 a = (-5) := by
  by_cases e : T 10 a = (-5)
  · exact e
  · have := iv_by2 h a ha e
    rw [h9] at this
    exact absurd this (by decide)
theorem nI_2 {n : Nat} (h : n < 2 ^ 31) : nI n ≠ (-5) := nI_nem5 h
theorem hit_q (T : Tm) (a b : Nat) (w : Int32) {q : Nat} (h0 : q ≠ 0) (h5 : q ≠ 5) (h6 : q ≠ 6) (h7 : q ≠ 7) (h8 : q ≠ 8) (h9 : q ≠ 9) (h10 : q ≠ 10) : hitT T a b w q = T q := by
  funext c
  simp [hitT, h0, h5, h6, h7, h8, h9, h10]
theorem hit_010 (T : Tm) (a b : Nat) (w : Int32) : hitT T a b w 0 10 = T 0 10 := by simp [hitT]
theorem hit_011 (T : Tm) (a b : Nat) (w : Int32) : hitT T a b w 0 11 = if hca T a b w = 100 ∧ hcb T a b w = 100 then T 0 11 + T 7 a + T 7 b else T 0 11 := by simp [hitT]
theorem hit_012 (T : Tm) (a b : Nat) (w : Int32) : hitT T a b w 0 12 = T 0 12 + 1 := by simp [hitT]
/-- who has an heir behind it -/
theorem hit_cnt (h : Iv T n) {a b : Nat} (ha : a < n) (hb : b < n) (hab : a ≠ b) (h9a : T 9 a = 0) (h9b : T 9 b = 0) (w : Int32) :
    cnt (nby (hitT T a b w)) n = if (hca T a b w = 100 ↔ hcb T a b w = 100) then cnt (nby T) n else cnt (nby T) n + 1 := by
  have hn := iv_n h
  have hba : b ≠ a := fun e => hab e.symm
  have e10a := iv_by0 h ha h9a
  have e10b := iv_by0 h hb h9b
  have fa : nI a ≠ (-5) := nI_2 (by omega)
  have fb : nI b ≠ (-5) := nI_2 (by omega)
  by_cases hA : hca T a b w = 100 <;> by_cases hB : hcb T a b w = 100
  · rw [if_pos ⟨fun _ => hB, fun _ => hA⟩]
    refine cnt_congr (fun c hc => ?_)
    unfold nby
    by_cases xa : c = a
    · subst xa; simp [hitT, hA, hB]
    · by_cases xb : c = b
      · subst xb; simp [hitT, hA, hB, xa]
      · simp [hitT, xa, xb]
  · rw [if_neg (fun e => hB (e.mp hA))]
    refine cnt_set (g := a) ha ?_ ?_ (fun c hc xa => ?_)
    · simp [nby, e10a]
    · simp [nby, hitT, hA, hB, fb]
    · by_cases xb : c = b
      · subst xb; simp [nby, hitT, hA, hB, xa]
      · simp [nby, hitT, xa, xb]
  · rw [if_neg (fun e => hA (e.mpr hB))]
    refine cnt_set (g := b) hb ?_ ?_ (fun c hc xb => ?_)
    · simp [nby, e10b]
    · simp [nby, hitT, hA, hB, fa, hba]
    · by_cases xa : c = a
      · subst xa; simp [nby, hitT, hA, hB]
      · simp [nby, hitT, xa, xb]
  · rw [if_pos ⟨fun e => absurd e hA, fun e => absurd e hB⟩]
    refine cnt_congr (fun c hc => ?_)
    unfold nby
    by_cases xa : c = a
    · subst xa; simp [hitT, hA, hB]
    · by_cases xb : c = b
      · subst xb; simp [hitT, hA, hB, xa]
      · simp [hitT, xa, xb]
set_option maxHeartbeats 4000000 in
theorem hit_Iv (h : Iv T n) {a b : Nat} (ha : a < n) (hb : b < n) (hab : a ≠ b) (h9a : T 9 a = 0) (h9b : T 9 b = 0) (w : Int32) : Iv (hitT T a b w) n := by
  have hn := iv_n h
  have hba : b ≠ a := fun e => hab e.symm
  have e10a := iv_by0 h ha h9a
  have e10b := iv_by0 h hb h9b
  have fa : nI a ≠ (-5) := nI_2 (by omega)
  have fb : nI b ≠ (-5) := nI_2 (by omega)
  have q1 := hit_q T a b w (q := 1) (by decide) (by decide) (by decide) (by decide) (by decide) (by decide) (by decide)
  have q3 := hit_q T a b w (q := 3) (by decide) (by decide) (by decide) (by decide) (by decide) (by decide) (by decide)
  have q4 := hit_q T a b w (q := 4) (by decide) (by decide) (by decide) (by decide) (by decide) (by decide) (by decide)
  refine ⟨hn, ?_, ?_, ?_, ?_, ?_, ?_, ?_, ?_⟩
  · rw [hit_010]; exact iv_N h
  · rw [q1]; exact iv_str h
  · rw [q3]; exact iv_own h
  · rw [q4]; exact iv_hard h
  · intro c hc
    by_cases xa : c = a
    · subst xa
      by_cases hA : hca T c b w = 100 ∧ ¬ hcb T c b w = 100
      · exact Or.inr ⟨b, hb, by simp [hitT, hA]⟩
      · exact Or.inl (by simp [hitT, hA, e10a])
    · by_cases xb : c = b
      · subst xb
        by_cases hB : hcb T a c w = 100 ∧ ¬ hca T a c w = 100
        · exact Or.inr ⟨a, ha, by simp [hitT, hB, xa]⟩
        · exact Or.inl (by simp [hitT, hB, e10b, xa])
      · have e : hitT T a b w 10 c = T 10 c := by simp [hitT, xa, xb]
        rw [e]
        exact iv_by h c hc
  · intro c hc hne
    by_cases xa : c = a
    · subst xa
      by_cases hA : hca T c b w = 100
      · simp [hitT, hA]
      · exact absurd (by simp [hitT, hA, e10a]) hne
    · by_cases xb : c = b
      · subst xb
        by_cases hB : hcb T a c w = 100
        · simp [hitT, hB, xa]
        · exact absurd (by simp [hitT, hB, e10b, xa]) hne
      · have e : hitT T a b w 10 c = T 10 c := by simp [hitT, xa, xb]
        rw [e] at hne
        have e9 : hitT T a b w 9 c = T 9 c := by simp [hitT, xa, xb]
        rw [e9]
        exact iv_by2 h c hc hne
  · obtain ⟨v, l, h1, h2, h3⟩ := iv_v h
    have va := h1 a ha
    have vb := h1 b hb
    rw [hit_cnt h ha hb hab h9a h9b w, hit_011]
    have k1 := sm_set (v := v) (w := fun c => if c = a then 0 else v c) (g := a) ha (fun i hi hne => by simp [hne])
    have k2 := sm_set (v := fun c => if c = a then 0 else v c) (w := fun c => if c = b then 0 else if c = a then 0 else v c) (g := b) hb (fun i hi hne => by simp [hne])
    by_cases hA : hca T a b w = 100 <;> by_cases hB : hcb T a b w = 100
    · refine ⟨fun c => if c = b then 0 else if c = a then 0 else v c, l + v a + v b, fun c hc => ?_, ?_, ?_⟩
      · by_cases xa : c = a
        · subst xa; simp [hitT, hA, hab]; rfl
        · by_cases xb : c = b
          · subst xb; simp [hitT, hB, xa]; rfl
          · simp [hitT, xa, xb, h1 c hc]
      · rw [if_pos ⟨hA, hB⟩, h2, va, vb, nI_add, nI_add]
      · rw [if_pos ⟨fun _ => hB, fun _ => hA⟩]
        simp [hba] at k1 k2
        omega
    · have k3 := sm_set (v := fun c => if c = a then 0 else v c) (w := fun c => if c = a then 0 else if c = b then v b + (1 + v a) else v c) (g := b) hb (fun i hi hne => by simp [hne])
      refine ⟨fun c => if c = a then 0 else if c = b then v b + (1 + v a) else v c, l, fun c hc => ?_, ?_, ?_⟩
      · by_cases xa : c = a
        · subst xa; simp [hitT, hA]; rfl
        · by_cases xb : c = b
          · subst xb
            simp [hitT, hA, hB, xa, va, vb]
            rw [show (1 : Int32) = nI 1 from rfl, nI_add, nI_add]
          · simp [hitT, xa, xb, h1 c hc]
      · rw [if_neg (fun e => hB e.2), h2]
      · rw [if_neg (fun e => hB (e.mp hA))]
        simp [hba] at k1 k3
        omega
    · have k3 := sm_set (v := v) (w := fun c => if c = b then 0 else v c) (g := b) hb (fun i hi hne => by simp [hne])
      have k4 := sm_set (v := fun c => if c = b then 0 else v c) (w := fun c => if c = b then 0 else if c = a then v a + (1 + v b) else v c) (g := a) ha (fun i hi hne => by simp [hne])
      refine ⟨fun c => if c = b then 0 else if c = a then v a + (1 + v b) else v c, l, fun c hc => ?_, ?_, ?_⟩
      · by_cases xa : c = a
        · subst xa
          simp [hitT, hA, hB, hab, va, vb]
          rw [show (1 : Int32) = nI 1 from rfl, nI_add, nI_add]
        · by_cases xb : c = b
          · subst xb; simp [hitT, hB, xa]; rfl
          · simp [hitT, xa, xb, h1 c hc]
      · rw [if_neg (fun e => hA e.1), h2]
      · rw [if_neg (fun e => hA (e.mpr hB))]
        simp [hab] at k3 k4
        omega
    · refine ⟨v, l, fun c hc => ?_, ?_, ?_⟩
      · by_cases xa : c = a
        · subst xa; simp [hitT, hA, hB, va]
        · by_cases xb : c = b
          · subst xb; simp [hitT, hA, hB, xa, vb]
          · simp [hitT, xa, xb, h1 c hc]
      · rw [if_neg (fun e => hA e.1), h2]
      · rw [if_pos ⟨fun e => absurd e hA, fun e => absurd e hB⟩]; exact h3
  · obtain ⟨d, h1, h2⟩ := iv_d h
    rw [hit_cnt h ha hb hab h9a h9b w]
    have step : ∀ x g : Nat, x < n → g < n → T 10 x = (-5) → T 10 g = (-5) → x ≠ g → ∀ T' : Tm, (∀ c, c < n → c ≠ g → T' 10 c = T 10 c) → T' 10 g = nI x →
        ∃ d' : Nat → Nat, (∀ c, c < n → d' c ≤ cnt (nby T) n + 1) ∧ ∀ c j, c < n → j < n → T' 10 c = nI j → d' j < d' c := by
      intro x g hx hg ex eg hxg T' hT hg2
      refine ⟨fun c => if c = x then 0 else d c + 1, fun c hc => ?_, fun c j hc hj he => ?_⟩
      · have := h1 c hc
        show (if c = x then 0 else d c + 1) ≤ _
        split <;> omega
      · by_cases hcg : c = g
        · subst hcg
          rw [hg2] at he
          have := nI_inj (by omega) (by omega) he
          subst this
          have hne : ¬ c = x := fun e => hxg e.symm
          simp [hne]
        · rw [hT c hc hcg] at he
          have hcx : ¬ c = x := fun e => by
            subst e
            rw [ex] at he
            exact nI_2 (n := j) (by omega) he.symm
          have := h2 c j hc hj he
          by_cases hjx : j = x
          · simp [hjx, hcx]
          · simp [hjx, hcx]; exact this
    by_cases hA : hca T a b w = 100 <;> by_cases hB : hcb T a b w = 100
    · rw [if_pos ⟨fun _ => hB, fun _ => hA⟩]
      refine ⟨d, h1, fun c j hc hj he => h2 c j hc hj ?_⟩
      rw [← he]
      by_cases xa : c = a
      · subst xa; simp [hitT, hA, hB]
      · by_cases xb : c = b
        · subst xb; simp [hitT, hA, hB, xa]
        · simp [hitT, xa, xb]
    · rw [if_neg (fun e => hB (e.mp hA))]
      refine step b a hb ha e10b e10a hba _ (fun c hc xa => ?_) ?_
      · by_cases xb : c = b
        · subst xb; simp [hitT, hA, hB, xa]
        · simp [hitT, xa, xb]
      · simp [hitT, hA, hB]
    · rw [if_neg (fun e => hA (e.mpr hB))]
      refine step a b ha hb e10a e10b hab _ (fun c hc xb => ?_) ?_
      · by_cases xa : c = a
        · subst xa; simp [hitT, hA, hB]
        · simp [hitT, xa, xb]
      · simp [hitT, hA, hB, hba]
    · rw [if_pos ⟨fun e => absurd e hA, fun e => absurd e hB⟩]
      refine ⟨d, h1, fun c j hc hj he => h2 c j hc hj ?_⟩
      rw [← he]
      by_cases xa : c = a
      · subst xa; simp [hitT, hA, hB]
      · by_cases xb : c = b
        · subst xb; simp [hitT, hA, hB, xa]
        · simp [hitT, xa, xb]
end HR

