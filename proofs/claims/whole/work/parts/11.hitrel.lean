/-! THE RELATION behind a strike -/
section HR
variable {T : Tm} {s : Nat → Int32} {n o : Nat}
theorem iv_by0 (h : Iv T n) {a : Nat} (ha : a < n) (h9 : T 9 a = 0) : T 10 a = (-5) := by
  by_cases e : T 10 a = (-5)
  · exact e
  · have := iv_by2 h a ha e
    rw [h9] at this
    exact absurd this (by decide)
theorem nI_2 {n : Nat} (h : n < 2 ^ 31) : nI n ≠ (-5) := nI_nem5 h
theorem hit_q (T : Tm) (a b : Nat) (w : Int32) {q : Nat} (h0 : q ≠ 0) (h5 : q ≠ 5) (h6 : q ≠ 6) (h7 : q ≠ 7) (h8 : q ≠ 8) (h9 : q ≠ 9) (h10 : q ≠ 10) : hitT T a b w q = T q := by
  funext c
  simp [hitT, h0, h5, h6, h7, h8, h9, h10]
theorem hit_010 (T : Tm) (a b : Nat) (w : Int32) : hitT T a b w 0 10 = T 0 10 := by simp [hitT]
theorem hit_011 (T : Tm) (a b : Nat) (w : Int32) : hitT T a b w 0 11 = if hca T a b w = 100 ∧ hcb T a b w = 100 then T 0 11 + T 7 a + T 7 b else T 0 11 := by simp [hitT]
theorem hit_012 (T : Tm) (a b : Nat) (w : Int32) : hitT T a b w 0 12 = T 0 12 + 1 := by simp [hitT]
/-- who has an heir behind it -/
theorem hit_cnt (h : Iv T n) {a b : Nat} (ha : a < n) (hb : b < n) (hab : a ≠ b) (h9a : T 9 a = 0) (h9b : T 9 b = 0) (w : Int32) :
    cnt (nby (hitT T a b w)) n = if (hca T a b w = 100 ↔ hcb T a b w = 100) then cnt (nby T) n else cnt (nby T) n + 1 := by
  have hn := iv_n h
  have hba : b ≠ a := fun e => hab e.symm
  have e10a := iv_by0 h ha h9a
  have e10b := iv_by0 h hb h9b
  have fa : nI a ≠ (-5) := nI_2 (by omega)
  have fb : nI b ≠ (-5) := nI_2 (by omega)
  by_cases hA : hca T a b w = 100 <;> by_cases hB : hcb T a b w = 100
  · rw [if_pos ⟨fun _ => hB, fun _ => hA⟩]
    refine cnt_congr (fun c hc => ?_)
    unfold nby
    by_cases xa : c = a
    · subst xa; simp [hitT, hA, hB]
    · by_cases xb : c = b
      · subst xb; simp [hitT, hA, hB, xa]
      · simp [hitT, xa, xb]
  · rw [if_neg (fun e => hB (e.mp hA))]
    refine cnt_set (g := a) ha ?_ ?_ (fun c hc xa => ?_)
    · simp [nby, e10a]
    · simp [nby, hitT, hA, hB, fb]
    · by_cases xb : c = b
      · subst xb; simp [nby, hitT, hA, hB, xa]
      · simp [nby, hitT, xa, xb]
  · rw [if_neg (fun e => hA (e.mpr hB))]
    refine cnt_set (g := b) hb ?_ ?_ (fun c hc xb => ?_)
    · simp [nby, e10b]
    · simp [nby, hitT, hA, hB, fa, hba]
    · by_cases xa : c = a
      · subst xa; simp [nby, hitT, hA, hB]
      · simp [nby, hitT, xa, xb]
  · rw [if_pos ⟨fun e => absurd e hA, fun e => absurd e hB⟩]
    refine cnt_congr (fun c hc => ?_)
    unfold nby
    by_cases xa : c = a
    · subst xa; simp [hitT, hA, hB]
    · by_cases xb : c = b
      · subst xb; simp [hitT, hA, hB, xa]
      · simp [hitT, xa, xb]
theorem sK_out {a b : Nat} (ha : a < 30) (hb : b < 30) (hab : a ≠ b) (w : Int32) {x : Nat} (hx : x < o + 1 ∨ o + 256 ≤ x ∨ (o + 4 ≤ x ∧ x < o + 16)) : sK T s o a b w x = s x := by
  unfold sK
  rw [k7_off (by omega) (by omega), k5_off (by omega) (by omega) (by omega) (by omega) (by omega), k3_off (by omega) (by omega) (by omega) (by omega) (by omega)]
set_option maxHeartbeats 4000000 in
theorem hit_RS (h : Iv T n) (hR : RS T s o n) {a b : Nat} (ha : a < n) (hb : b < n) (hab : a ≠ b) (h9a : T 9 a = 0) (h9b : T 9 b = 0) (w : Int32) : RS (hitT T a b w) (sK T s o a b w) o n := by
  have hn := iv_n h
  have hba : b ≠ a := fun e => hab e.symm
  have hpq : o + 16 + 8 * a + 8 ≤ o + 16 + 8 * b ∨ o + 16 + 8 * b + 8 ≤ o + 16 + 8 * a := by omega
  have e10a := iv_by0 h ha h9a
  have e10b := iv_by0 h hb h9b
  obtain ⟨r0, r1, r2, r3, rp, rf⟩ := hR
  have f3 : ∀ c, c < n → s (o + 16 + 8 * c + 3) = T 6 c := fun c hc => rf c hc 3 (by decide)
  have f2 : ∀ c, c < n → s (o + 16 + 8 * c + 2) = T 5 c := fun c hc => rf c hc 2 (by decide)
  have f4 : ∀ c, c < n → s (o + 16 + 8 * c + 4) = T 7 c := fun c hc => rf c hc 4 (by decide)
  have f5 : ∀ c, c < n → s (o + 16 + 8 * c + 5) = T 8 c := fun c hc => rf c hc 5 (by decide)
  have f6 : ∀ c, c < n → s (o + 16 + 8 * c + 6) = T 9 c := fun c hc => rf c hc 6 (by decide)
  have f7 : ∀ c, c < n → s (o + 16 + 8 * c + 7) = T 10 c := fun c hc => rf c hc 7 (by decide)
  -- the row ahead of the smashes, at the two conkers
  have u2a : sK3 s o (o + 16 + 8 * a) (o + 16 + 8 * b) (hca T a b w) (hcb T a b w) (hwa T a w) (hwb T b) (o + 16 + 8 * a + 2) = hca T a b w := k3_p2 (by omega) (by omega) hpq
  have u2b : sK3 s o (o + 16 + 8 * a) (o + 16 + 8 * b) (hca T a b w) (hcb T a b w) (hwa T a w) (hwb T b) (o + 16 + 8 * b + 2) = hcb T a b w := k3_q2 (by omega) (by omega) hpq
  have u3a : sK3 s o (o + 16 + 8 * a) (o + 16 + 8 * b) (hca T a b w) (hcb T a b w) (hwa T a w) (hwb T b) (o + 16 + 8 * a + 3) = hwa T a w := k3_p3 (by omega) (by omega) hpq
  have u3b : sK3 s o (o + 16 + 8 * a) (o + 16 + 8 * b) (hca T a b w) (hcb T a b w) (hwa T a w) (hwb T b) (o + 16 + 8 * b + 3) = hwb T b := k3_q3 (by omega) (by omega) hpq
  have u4a : sK3 s o (o + 16 + 8 * a) (o + 16 + 8 * b) (hca T a b w) (hcb T a b w) (hwa T a w) (hwb T b) (o + 16 + 8 * a + 4) = T 7 a := (k3_off (by omega) (by omega) (by omega) (by omega) (by omega)).trans (f4 a ha)
  have u4b : sK3 s o (o + 16 + 8 * a) (o + 16 + 8 * b) (hca T a b w) (hcb T a b w) (hwa T a w) (hwb T b) (o + 16 + 8 * b + 4) = T 7 b := (k3_off (by omega) (by omega) (by omega) (by omega) (by omega)).trans (f4 b hb)
  have u5a : sK3 s o (o + 16 + 8 * a) (o + 16 + 8 * b) (hca T a b w) (hcb T a b w) (hwa T a w) (hwb T b) (o + 16 + 8 * a + 5) = T 8 a := (k3_off (by omega) (by omega) (by omega) (by omega) (by omega)).trans (f5 a ha)
  have u5b : sK3 s o (o + 16 + 8 * a) (o + 16 + 8 * b) (hca T a b w) (hcb T a b w) (hwa T a w) (hwb T b) (o + 16 + 8 * b + 5) = T 8 b := (k3_off (by omega) (by omega) (by omega) (by omega) (by omega)).trans (f5 b hb)
  have u6a : sK3 s o (o + 16 + 8 * a) (o + 16 + 8 * b) (hca T a b w) (hcb T a b w) (hwa T a w) (hwb T b) (o + 16 + 8 * a + 6) = 0 := (k3_off (by omega) (by omega) (by omega) (by omega) (by omega)).trans ((f6 a ha).trans h9a)
  have u6b : sK3 s o (o + 16 + 8 * a) (o + 16 + 8 * b) (hca T a b w) (hcb T a b w) (hwa T a w) (hwb T b) (o + 16 + 8 * b + 6) = 0 := (k3_off (by omega) (by omega) (by omega) (by omega) (by omega)).trans ((f6 b hb).trans h9b)
  have u7a : sK3 s o (o + 16 + 8 * a) (o + 16 + 8 * b) (hca T a b w) (hcb T a b w) (hwa T a w) (hwb T b) (o + 16 + 8 * a + 7) = (-5) := (k3_off (by omega) (by omega) (by omega) (by omega) (by omega)).trans ((f7 a ha).trans e10a)
  have u7b : sK3 s o (o + 16 + 8 * a) (o + 16 + 8 * b) (hca T a b w) (hcb T a b w) (hwa T a w) (hwb T b) (o + 16 + 8 * b + 7) = (-5) := (k3_off (by omega) (by omega) (by omega) (by omega) (by omega)).trans ((f7 b hb).trans e10b)
  have uo1 : sK3 s o (o + 16 + 8 * a) (o + 16 + 8 * b) (hca T a b w) (hcb T a b w) (hwa T a w) (hwb T b) (o + 1) = T 0 11 := (k3_off (by omega) (by omega) (by omega) (by omega) (by omega)).trans r1
  have uo3 : sK3 s o (o + 16 + 8 * a) (o + 16 + 8 * b) (hca T a b w) (hcb T a b w) (hwa T a w) (hwb T b) (o + 3) = nI (cnt (nby T) n) := (k3_off (by omega) (by omega) (by omega) (by omega) (by omega)).trans r3
  refine ⟨?_, ?_, ?_, ?_, ?_, ?_⟩
  · rw [sK_out (by omega) (by omega) hab w (by omega)]; exact r0
  · unfold sK
    rw [k7_off (by omega) (by omega), k5_o1 (by omega) (by omega), u2a, u2b, uo1, u4a, u4b, hit_011, Int32.add_assoc]
  · unfold sK
    rw [k7_off (by omega) (by omega), k5_off (by omega) (by omega) (by omega) (by omega) (by omega), k3_o2, r2, hit_012]
  · unfold sK
    rw [k7_off (by omega) (by omega), k5_o3 (by omega) (by omega), u2a, u2b, uo3, hit_cnt h ha hb hab h9a h9b w]
    split
    · rfl
    · rw [nI_p1]
  · intro p hp
    rw [hit_q T a b w (q := 1) (by decide) (by decide) (by decide) (by decide) (by decide) (by decide) (by decide), hit_q T a b w (q := 2) (by decide) (by decide) (by decide) (by decide) (by decide) (by decide) (by decide), sK_out (by omega) (by omega) hab w (by omega), sK_out (by omega) (by omega) hab w (by omega)]
    exact rp p hp
  · intro c hc f hf
    have hfc : f = 0 ∨ f = 1 ∨ f = 2 ∨ f = 3 ∨ f = 4 ∨ f = 5 ∨ f = 6 ∨ f = 7 := by omega
    unfold sK
    by_cases xa : c = a
    · subst xa
      rcases hfc with rfl | rfl | rfl | rfl | rfl | rfl | rfl | rfl
      · rw [k7_off (by omega) (by omega), k5_off (by omega) (by omega) (by omega) (by omega) (by omega), k3_off (by omega) (by omega) (by omega) (by omega) (by omega), rf c hc 0 (by decide)]
        simp [hitT]
      · rw [k7_off (by omega) (by omega), k5_off (by omega) (by omega) (by omega) (by omega) (by omega), k3_off (by omega) (by omega) (by omega) (by omega) (by omega), rf c hc 1 (by decide)]
        simp [hitT]
      · rw [k7_off (by omega) (by omega), k5_off (by omega) (by omega) (by omega) (by omega) (by omega), u2a]
        simp [hitT]
      · rw [k7_off (by omega) (by omega), k5_off (by omega) (by omega) (by omega) (by omega) (by omega), u3a]
        simp [hitT]
      · rw [k7_off (by omega) (by omega), k5_p4 (by omega) (by omega), u2a, u2b, u4a, u4b]
        simp [hitT]
      · rw [k7_off (by omega) (by omega), k5_p5 (by omega) (by omega), u2a, u5a]
        simp [hitT]
      · rw [k7_p6 (by omega), k5_off (by omega) (by omega) (by omega) (by omega) (by omega), u3a, k5_p6 (by omega) (by omega), u2a, u6a]
        by_cases hA : hca T c b w = 100 <;> by_cases hW : hwa T c w = 20 <;> simp [hitT, hA, hW]
      · rw [k7_off (by omega) (by omega), k5_p7 (by omega) (by omega), u2a, u2b, u7a]
        by_cases hA : hca T c b w = 100 <;> by_cases hB : hcb T c b w = 100 <;> simp [hitT, hA, hB, e10a]
    · by_cases xb : c = b
      · subst xb
        rcases hfc with rfl | rfl | rfl | rfl | rfl | rfl | rfl | rfl
        · rw [k7_off (by omega) (by omega), k5_off (by omega) (by omega) (by omega) (by omega) (by omega), k3_off (by omega) (by omega) (by omega) (by omega) (by omega), rf c hc 0 (by decide)]
          simp [hitT]
        · rw [k7_off (by omega) (by omega), k5_off (by omega) (by omega) (by omega) (by omega) (by omega), k3_off (by omega) (by omega) (by omega) (by omega) (by omega), rf c hc 1 (by decide)]
          simp [hitT]
        · rw [k7_off (by omega) (by omega), k5_off (by omega) (by omega) (by omega) (by omega) (by omega), u2b]
          simp [hitT, xa]
        · rw [k7_off (by omega) (by omega), k5_off (by omega) (by omega) (by omega) (by omega) (by omega), u3b]
          simp [hitT, xa]
        · rw [k7_off (by omega) (by omega), k5_q4 (by omega) (by omega), u2a, u2b, u4a, u4b]
          simp [hitT, xa]
        · rw [k7_off (by omega) (by omega), k5_q5 (by omega) (by omega), u2b, u5b]
          simp [hitT, xa]
        · rw [k7_q6, k5_off (by omega) (by omega) (by omega) (by omega) (by omega), u3b, k5_q6 (by omega) (by omega), u2b, u6b]
          by_cases hB : hcb T a c w = 100 <;> by_cases hW : hwb T c = 20 <;> simp [hitT, hB, hW, xa]
        · rw [k7_off (by omega) (by omega), k5_q7 (by omega) (by omega), u2a, u2b, u7b]
          by_cases hA : hca T a c w = 100 <;> by_cases hB : hcb T a c w = 100 <;> simp [hitT, hA, hB, e10b, xa]
      · rw [k7_off (by omega) (by omega), k5_off (by omega) (by omega) (by omega) (by omega) (by omega), k3_off (by omega) (by omega) (by omega) (by omega) (by omega), rf c hc f hf]
        rcases hfc with rfl | rfl | rfl | rfl | rfl | rfl | rfl | rfl <;> simp [hitT, xa, xb]
set_option maxHeartbeats 4000000 in
theorem hit_Iv (h : Iv T n) {a b : Nat} (ha : a < n) (hb : b < n) (hab : a ≠ b) (h9a : T 9 a = 0) (h9b : T 9 b = 0) (w : Int32) : Iv (hitT T a b w) n := by
  have hn := iv_n h
  have hba : b ≠ a := fun e => hab e.symm
  have e10a := iv_by0 h ha h9a
  have e10b := iv_by0 h hb h9b
  have fa : nI a ≠ (-5) := nI_2 (by omega)
  have fb : nI b ≠ (-5) := nI_2 (by omega)
  have q1 := hit_q T a b w (q := 1) (by decide) (by decide) (by decide) (by decide) (by decide) (by decide) (by decide)
  have q3 := hit_q T a b w (q := 3) (by decide) (by decide) (by decide) (by decide) (by decide) (by decide) (by decide)
  have q4 := hit_q T a b w (q := 4) (by decide) (by decide) (by decide) (by decide) (by decide) (by decide) (by decide)
  refine ⟨hn, ?_, ?_, ?_, ?_, ?_, ?_, ?_, ?_⟩
  · rw [hit_010]; exact iv_N h
  · rw [q1]; exact iv_str h
  · rw [q3]; exact iv_own h
  · rw [q4]; exact iv_hard h
  · intro c hc
    by_cases xa : c = a
    · subst xa
      by_cases hA : hca T c b w = 100 ∧ ¬ hcb T c b w = 100
      · exact Or.inr ⟨b, hb, by simp [hitT, hA]⟩
      · exact Or.inl (by simp [hitT, hA, e10a])
    · by_cases xb : c = b
      · subst xb
        by_cases hB : hcb T a c w = 100 ∧ ¬ hca T a c w = 100
        · exact Or.inr ⟨a, ha, by simp [hitT, hB, xa]⟩
        · exact Or.inl (by simp [hitT, hB, e10b, xa])
      · have e : hitT T a b w 10 c = T 10 c := by simp [hitT, xa, xb]
        rw [e]
        exact iv_by h c hc
  · intro c hc hne
    by_cases xa : c = a
    · subst xa
      by_cases hA : hca T c b w = 100
      · simp [hitT, hA]
      · exact absurd (by simp [hitT, hA, e10a]) hne
    · by_cases xb : c = b
      · subst xb
        by_cases hB : hcb T a c w = 100
        · simp [hitT, hB, xa]
        · exact absurd (by simp [hitT, hB, e10b, xa]) hne
      · have e : hitT T a b w 10 c = T 10 c := by simp [hitT, xa, xb]
        rw [e] at hne
        have e9 : hitT T a b w 9 c = T 9 c := by simp [hitT, xa, xb]
        rw [e9]
        exact iv_by2 h c hc hne
  · obtain ⟨v, l, h1, h2, h3⟩ := iv_v h
    have va := h1 a ha
    have vb := h1 b hb
    rw [hit_cnt h ha hb hab h9a h9b w, hit_011]
    have k1 := sm_set (v := v) (w := fun c => if c = a then 0 else v c) (g := a) ha (fun i hi hne => by simp [hne])
    have k2 := sm_set (v := fun c => if c = a then 0 else v c) (w := fun c => if c = b then 0 else if c = a then 0 else v c) (g := b) hb (fun i hi hne => by simp [hne])
    by_cases hA : hca T a b w = 100 <;> by_cases hB : hcb T a b w = 100
    · refine ⟨fun c => if c = b then 0 else if c = a then 0 else v c, l + v a + v b, fun c hc => ?_, ?_, ?_⟩
      · by_cases xa : c = a
        · subst xa; simp [hitT, hA, hab]; rfl
        · by_cases xb : c = b
          · subst xb; simp [hitT, hB, xa]; rfl
          · simp [hitT, xa, xb, h1 c hc]
      · rw [if_pos ⟨hA, hB⟩, h2, va, vb, nI_add, nI_add]
      · rw [if_pos ⟨fun _ => hB, fun _ => hA⟩]
        simp [hba] at k1 k2
        omega
    · have k3 := sm_set (v := fun c => if c = a then 0 else v c) (w := fun c => if c = a then 0 else if c = b then v b + (1 + v a) else v c) (g := b) hb (fun i hi hne => by simp [hne])
      refine ⟨fun c => if c = a then 0 else if c = b then v b + (1 + v a) else v c, l, fun c hc => ?_, ?_, ?_⟩
      · by_cases xa : c = a
        · subst xa; simp [hitT, hA]; rfl
        · by_cases xb : c = b
          · subst xb
            simp [hitT, hA, hB, xa, va, vb]
            rw [show (1 : Int32) = nI 1 from rfl, nI_add, nI_add]
          · simp [hitT, xa, xb, h1 c hc]
      · rw [if_neg (fun e => hB e.2), h2]
      · rw [if_neg (fun e => hB (e.mp hA))]
        simp [hba] at k1 k3
        omega
    · have k3 := sm_set (v := v) (w := fun c => if c = b then 0 else v c) (g := b) hb (fun i hi hne => by simp [hne])
      have k4 := sm_set (v := fun c => if c = b then 0 else v c) (w := fun c => if c = b then 0 else if c = a then v a + (1 + v b) else v c) (g := a) ha (fun i hi hne => by simp [hne])
      refine ⟨fun c => if c = b then 0 else if c = a then v a + (1 + v b) else v c, l, fun c hc => ?_, ?_, ?_⟩
      · by_cases xa : c = a
        · subst xa
          simp [hitT, hA, hB, hab, va, vb]
          rw [show (1 : Int32) = nI 1 from rfl, nI_add, nI_add]
        · by_cases xb : c = b
          · subst xb; simp [hitT, hB, xa]; rfl
          · simp [hitT, xa, xb, h1 c hc]
      · rw [if_neg (fun e => hA e.1), h2]
      · rw [if_neg (fun e => hA (e.mpr hB))]
        simp [hab] at k3 k4
        omega
    · refine ⟨v, l, fun c hc => ?_, ?_, ?_⟩
      · by_cases xa : c = a
        · subst xa; simp [hitT, hA, hB, va]
        · by_cases xb : c = b
          · subst xb; simp [hitT, hA, hB, xa, vb]
          · simp [hitT, xa, xb, h1 c hc]
      · rw [if_neg (fun e => hA e.1), h2]
      · rw [if_pos ⟨fun e => absurd e hA, fun e => absurd e hB⟩]; exact h3
  · obtain ⟨d, h1, h2⟩ := iv_d h
    rw [hit_cnt h ha hb hab h9a h9b w]
    have step : ∀ x g : Nat, x < n → g < n → T 10 x = (-5) → T 10 g = (-5) → x ≠ g → ∀ T' : Tm, (∀ c, c < n → c ≠ g → T' 10 c = T 10 c) → T' 10 g = nI x →
        ∃ d' : Nat → Nat, (∀ c, c < n → d' c ≤ cnt (nby T) n + 1) ∧ ∀ c j, c < n → j < n → T' 10 c = nI j → d' j < d' c := by
      intro x g hx hg ex eg hxg T' hT hg2
      refine ⟨fun c => if c = x then 0 else d c + 1, fun c hc => ?_, fun c j hc hj he => ?_⟩
      · have := h1 c hc
        show (if c = x then 0 else d c + 1) ≤ _
        split <;> omega
      · by_cases hcg : c = g
        · subst hcg
          rw [hg2] at he
          have := nI_inj (by omega) (by omega) he
          subst this
          have hne : ¬ c = x := fun e => hxg e.symm
          simp [hne]
        · rw [hT c hc hcg] at he
          have hcx : ¬ c = x := fun e => by
            subst e
            rw [ex] at he
            exact nI_2 (n := j) (by omega) he.symm
          have := h2 c j hc hj he
          by_cases hjx : j = x
          · simp [hjx, hcx]
          · simp [hjx, hcx]; exact this
    by_cases hA : hca T a b w = 100 <;> by_cases hB : hcb T a b w = 100
    · rw [if_pos ⟨fun _ => hB, fun _ => hA⟩]
      refine ⟨d, h1, fun c j hc hj he => h2 c j hc hj ?_⟩
      rw [← he]
      by_cases xa : c = a
      · subst xa; simp [hitT, hA, hB]
      · by_cases xb : c = b
        · subst xb; simp [hitT, hA, hB, xa]
        · simp [hitT, xa, xb]
    · rw [if_neg (fun e => hB (e.mp hA))]
      refine step b a hb ha e10b e10a hba _ (fun c hc xa => ?_) ?_
      · by_cases xb : c = b
        · subst xb; simp [hitT, hA, hB, xa]
        · simp [hitT, xa, xb]
      · simp [hitT, hA, hB]
    · rw [if_neg (fun e => hA (e.mpr hB))]
      refine step a b ha hb e10a e10b hab _ (fun c hc xb => ?_) ?_
      · by_cases xa : c = a
        · subst xa; simp [hitT, hA, hB]
        · simp [hitT, xa, xb]
      · simp [hitT, hA, hB, hba]
    · rw [if_pos ⟨fun e => absurd e hA, fun e => absurd e hB⟩]
      refine ⟨d, h1, fun c j hc hj he => h2 c j hc hj ?_⟩
      rw [← he]
      by_cases xa : c = a
      · subst xa; simp [hitT, hA, hB]
      · by_cases xb : c = b
        · subst xb; simp [hitT, hA, hB, xa]
        · simp [hitT, xa, xb]
end HR
