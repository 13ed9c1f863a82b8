/-! THE STRONGER INVARIANT of a state -/
def Ec (T : Tm) (n c : Nat) : Prop :=
  (∃ j, j ≤ 2 ∧ T 9 c = nI j) ∧
  (∃ j, j ≤ 100 ∧ T 5 c = nI j ∧ (T 9 c ≠ 2 → j ≤ 99)) ∧
  (∃ j, j ≤ 20 ∧ T 6 c = nI j ∧ (T 9 c = 0 → j ≤ 19) ∧ (T 9 c = 1 → j = 20)) ∧
  (T 9 c = 2 → T 7 c = 0 ∧ T 8 c = (-5)) ∧
  (T 8 c = (-5) ∨ ∃ j, j ≤ 99 ∧ T 8 c = nI j) ∧
  (∀ j, j < n → T 10 c = nI j → T 3 j ≠ T 3 c ∧ T 5 c = 100)
def Ev (T : Tm) (n : Nat) : Prop := ∀ c, c < n → Ec T n c
def rng (q c : Nat) : Prop := (q = 0 ∧ (c = 10 ∨ c = 11 ∨ c = 12)) ∨ ((q = 1 ∨ q = 2) ∧ c < 6) ∨ (3 ≤ q ∧ q ≤ 10 ∧ c < 30)
def Jk (T : Tm) : Prop := ∀ q c, ¬ rng q c → T q c = 0
/-- all that is kept of a state of n conkers, after s strikes -/
def St (T : Tm) (n s : Nat) : Prop := Iv T n ∧ Ev T n ∧ Jk T ∧ T 0 12 = nI s
section ST
variable {T T' S V : Tm} {n s : Nat}
theorem jk_wT (h : Jk T) {a j : Nat} (hr : rng a j) (v : Int32) : Jk (wT T a j v) := by
  intro q c hq
  rw [wT_get]
  by_cases h1 : q = a
  · by_cases h2 : c = j
    · subst h1; subst h2; exact absurd hr hq
    · rw [if_pos h1, if_neg h2]; subst h1; exact h q c hq
  · rw [if_neg h1]; exact h q c hq
theorem rng_f {q c : Nat} (h1 : 3 ≤ q) (h2 : q ≤ 10) (h3 : c < 30) : rng q c := Or.inr (Or.inr ⟨h1, h2, h3⟩)
theorem rng_p {q c : Nat} (h1 : q = 1 ∨ q = 2) (h3 : c < 6) : rng q c := Or.inr (Or.inl ⟨h1, h3⟩)
theorem rng_0 {c : Nat} (h : c = 10 ∨ c = 11 ∨ c = 12) : rng 0 c := Or.inl ⟨rfl, h⟩
/-- a copy of a state is that state -/
theorem cp_eq (hT : Jk T) (hS : Jk S) (hA : Ag S V) : cpT T V = S := by
  obtain ⟨a10, a11, a12, ap, af⟩ := hA
  funext q c
  unfold cpT
  by_cases q0 : q = 0
  · subst q0
    rw [if_pos rfl]
    by_cases hc : c = 10 ∨ c = 11 ∨ c = 12
    · rw [if_pos hc]
      rcases hc with rfl | rfl | rfl
      · exact a10
      · exact a11
      · exact a12
    · rw [if_neg hc, hT 0 c (by unfold rng; omega), hS 0 c (by unfold rng; omega)]
  · rw [if_neg q0]
    by_cases q1 : q = 1 ∨ q = 2
    · rw [if_pos q1]
      by_cases hc : c < 6
      · rw [if_pos hc]
        rcases q1 with rfl | rfl
        · exact (ap c hc).1
        · exact (ap c hc).2
      · rw [if_neg hc, hT q c (by unfold rng; omega), hS q c (by unfold rng; omega)]
    · rw [if_neg q1]
      by_cases q10 : q ≤ 10
      · rw [if_pos q10]
        by_cases hc : c < 30
        · rw [if_pos hc]; exact af q (by omega) q10 c hc
        · rw [if_neg hc, hT q c (by unfold rng; omega), hS q c (by unfold rng; omega)]
      · rw [if_neg q10, hT q c (by unfold rng; omega), hS q c (by unfold rng; omega)]
theorem ag_rf (T : Tm) : Ag T T := ⟨rfl, rfl, rfl, fun _ _ => ⟨rfl, rfl⟩, fun _ _ _ _ _ => rfl⟩
theorem cp_self (hT : Jk T) (hS : Jk S) : cpT T S = S := cp_eq hT hS (ag_rf S)
theorem jk_hit (h : Jk T) {a b : Nat} (ha : a < 30) (hb : b < 30) (w : Int32) : Jk (hitT T a b w) := by
  intro q c hq
  have e := h q c hq
  unfold rng at hq
  by_cases q0 : q = 0
  · subst q0
    have c12 : ¬ c = 12 := by omega
    have c11 : ¬ c = 11 := by omega
    simp [hitT, c12, c11, e]
  · by_cases q2 : q ≤ 2 ∨ 10 < q
    · rw [hit_q T a b w q0 (by omega) (by omega) (by omega) (by omega) (by omega) (by omega)]
      exact e
    · have ca : ¬ c = a := by omega
      have cb : ¬ c = b := by omega
      have qc : q = 3 ∨ q = 4 ∨ q = 5 ∨ q = 6 ∨ q = 7 ∨ q = 8 ∨ q = 9 ∨ q = 10 := by omega
      rcases qc with rfl | rfl | rfl | rfl | rfl | rfl | rfl | rfl <;> simp [hitT, ca, cb, e]
theorem ec_same (h3 : ∀ c, c < n → T' 3 c = T 3 c) {c : Nat} (hc : c < n) (h5 : T' 5 c = T 5 c) (h6 : T' 6 c = T 6 c) (h7 : T' 7 c = T 7 c) (h8 : T' 8 c = T 8 c) (h9 : T' 9 c = T 9 c) (h10 : T' 10 c = T 10 c) (h : Ec T n c) : Ec T' n c := by
  obtain ⟨e1, e2, e3, e4, e5, e6⟩ := h
  refine ⟨by rw [h9]; exact e1, by rw [h9, h5]; exact e2, by rw [h9, h6]; exact e3, by rw [h9, h7, h8]; exact e4, by rw [h8]; exact e5, fun j hj he => ?_⟩
  rw [h3 j hj, h3 c hc, h5]
  exact e6 j hj (by rw [← h10]; exact he)
theorem mn_min {x y : Nat} (hx : x < 2 ^ 31) (hy : y < 2 ^ 31) : mn (nI x) (nI y) = nI (min x y) := mn_nI hx hy
/-- the numbers of a strike -/
theorem hit_vals (h : Iv T n) (hE : Ev T n) {a b t : Nat} (ha : a < n) (hb : b < n) (ht : t ≤ 9) : ∃ CA CB WA WB : Nat, hca T a b (nI t) = nI CA ∧ CA ≤ 100 ∧ hcb T a b (nI t) = nI CB ∧ CB ≤ 100 ∧ hwa T a (nI t) = nI WA ∧ WA ≤ 20 ∧ hwb T b = nI WB ∧ WB ≤ 20 := by
  obtain ⟨x, x1, x2, ex⟩ := iv_hard h a ha
  obtain ⟨y, y1, y2, ey⟩ := iv_hard h b hb
  obtain ⟨-, ⟨ca, ca1, eca, -⟩, ⟨wa, wa1, ewa, -⟩, -⟩ := hE a ha
  obtain ⟨-, ⟨cb, cb1, ecb, -⟩, ⟨wb, wb1, ewb, -⟩, -⟩ := hE b hb
  have m1 : t * x ≤ 9 * 9 := Nat.mul_le_mul ht x2
  have m2 : t * y ≤ 9 * 9 := Nat.mul_le_mul ht y2
  have d1 : t * y / (2 * x) ≤ t * y := Nat.div_le_self _ _
  have d2 : t * x / y ≤ t * x := Nat.div_le_self _ _
  have h100 : (100 : Int32) = nI 100 := rfl
  have h20 : (20 : Int32) = nI 20 := rfl
  refine ⟨min (ca + t * y / (2 * x)) 100, min (cb + t * x / y) 100, min (wa + (if nI t ≤ (6 : Int32) then 1 else 2)) 20, min (wb + 1) 20, ?_, Nat.min_le_right _ _, ?_, Nat.min_le_right _ _, ?_, Nat.min_le_right _ _, ?_, Nat.min_le_right _ _⟩
  · unfold hca
    rw [ex, ey, eca, pk_mul, show (2 : Int32) = nI 2 from rfl, pk_mul, pk_div (by omega) (by omega) (by omega), nI_add, h100, mn_nI (by omega) (by omega)]
  · unfold hcb
    rw [ex, ey, ecb, pk_mul, pk_div (by omega) (by omega) (by omega), nI_add, h100, mn_nI (by omega) (by omega)]
  · unfold hwa
    rw [ewa, h20]
    by_cases hw : nI t ≤ (6 : Int32)
    · rw [if_pos hw, if_pos hw, nI_p1, mn_nI (by omega) (by omega)]
    · rw [if_neg hw, if_neg hw, nI_p2, mn_nI (by omega) (by omega)]
  · unfold hwb
    rw [ewb, h20, nI_p1, mn_nI (by omega) (by omega)]
theorem n_eq {a b : Nat} (ha : a < 2 ^ 31) (hb : b < 2 ^ 31) : (nI a = nI b) ↔ a = b := nI_eq ha hb
set_option maxHeartbeats 4000000 in
theorem ev_hit (h : Iv T n) (hE : Ev T n) {a b t : Nat} (ha : a < n) (hb : b < n) (hab : a ≠ b) (hown : T 3 a ≠ T 3 b) (h9a : T 9 a = 0) (h9b : T 9 b = 0) (ht : t ≤ 9) : Ev (hitT T a b (nI t)) n := by
  have hn := iv_n h
  have hba : b ≠ a := fun e => hab e.symm
  have e10a := iv_by0 h ha h9a
  have e10b := iv_by0 h hb h9b
  obtain ⟨CA, CB, WA, WB, eCA, lCA, eCB, lCB, eWA, lWA, eWB, lWB⟩ := hit_vals h hE ha hb ht
  have q3 := hit_q T a b (nI t) (q := 3) (by decide) (by decide) (by decide) (by decide) (by decide) (by decide) (by decide)
  have c100 : ∀ {x : Nat}, x ≤ 100 → ((nI x = (100 : Int32)) ↔ x = 100) := fun hx => nI_eq (b := 100) (by omega) (by decide)
  have c20 : ∀ {x : Nat}, x ≤ 20 → ((nI x = (20 : Int32)) ↔ x = 20) := fun hx => nI_eq (b := 20) (by omega) (by decide)
  have n5 : ∀ j, j < n → ¬ ((-5 : Int32) = nI j) := fun j hj e => nI_nem5 (n := j) (by omega) e.symm
  have d1 : ¬ ((0 : Int32) = 1) := by decide
  have d2 : ¬ ((0 : Int32) = 2) := by decide
  have d3 : ¬ ((1 : Int32) = 2) := by decide
  have d4 : ¬ ((1 : Int32) = 0) := by decide
  have d5 : ¬ ((2 : Int32) = 0) := by decide
  have d6 : ¬ ((2 : Int32) = 1) := by decide
  have h0 : (0 : Int32) = nI 0 := rfl
  have h1 : (1 : Int32) = nI 1 := rfl
  have h2 : (2 : Int32) = nI 2 := rfl
  intro c hc
  by_cases xa : c = a
  · subst xa
    obtain ⟨-, -, -, -, b5, -⟩ := hE c ha
    have f5 : hitT T c b (nI t) 5 c = nI CA := by rw [← eCA]; simp [hitT]
    have f6 : hitT T c b (nI t) 6 c = nI WA := by rw [← eWA]; simp [hitT]
    have f7 : CA = 100 → hitT T c b (nI t) 7 c = 0 := fun e => by simp [hitT, eCA, (c100 lCA).mpr e]
    have f8 : hitT T c b (nI t) 8 c = if CA = 100 then (-5) else T 8 c := by simp [hitT, eCA, c100 lCA]
    have f9 : hitT T c b (nI t) 9 c = if CA = 100 then 2 else if WA = 20 then 1 else 0 := by simp [hitT, eCA, eWA, c100 lCA, c20 lWA]
    have f10 : hitT T c b (nI t) 10 c = if CA = 100 ∧ ¬ CB = 100 then nI b else (-5) := by simp [hitT, eCA, eCB, c100 lCA, c100 lCB, e10a]
    refine ⟨?_, ⟨CA, lCA, f5, fun hne => ?_⟩, ⟨WA, lWA, f6, fun he => ?_, fun he => ?_⟩, fun he => ?_, ?_, fun j hj he => ?_⟩
    · rw [f9]
      split
      · exact ⟨2, by decide, h2⟩
      · split
        · exact ⟨1, by decide, h1⟩
        · exact ⟨0, by decide, h0⟩
    · rw [f9] at hne
      by_cases e : CA = 100
      · rw [if_pos e] at hne; exact absurd rfl hne
      · omega
    · rw [f9] at he
      by_cases e : CA = 100
      · rw [if_pos e] at he; exact absurd he d5
      · rw [if_neg e] at he
        by_cases e' : WA = 20
        · rw [if_pos e'] at he; exact absurd he d4
        · omega
    · rw [f9] at he
      by_cases e : CA = 100
      · rw [if_pos e] at he; exact absurd he d6
      · rw [if_neg e] at he
        by_cases e' : WA = 20
        · exact e'
        · rw [if_neg e'] at he; exact absurd he d1
    · rw [f9] at he
      by_cases e : CA = 100
      · exact ⟨f7 e, by rw [f8, if_pos e]⟩
      · rw [if_neg e] at he
        by_cases e' : WA = 20
        · rw [if_pos e'] at he; exact absurd he d3
        · rw [if_neg e'] at he; exact absurd he d2
    · rw [f8]
      split
      · exact Or.inl rfl
      · exact b5
    · rw [f10] at he
      by_cases e : CA = 100 ∧ ¬ CB = 100
      · rw [if_pos e] at he
        have ej := nI_inj (by omega) (by omega) he
        subst ej
        rw [q3, f5, e.1]
        exact ⟨fun q => hown q.symm, rfl⟩
      · rw [if_neg e] at he
        exact absurd he (n5 j hj)
  · by_cases xb : c = b
    · subst xb
      obtain ⟨-, -, -, -, b5, -⟩ := hE c hb
      have f5 : hitT T a c (nI t) 5 c = nI CB := by rw [← eCB]; simp [hitT, xa]
      have f6 : hitT T a c (nI t) 6 c = nI WB := by rw [← eWB]; simp [hitT, xa]
      have f7 : CB = 100 → hitT T a c (nI t) 7 c = 0 := fun e => by simp [hitT, xa, eCB, (c100 lCB).mpr e]
      have f8 : hitT T a c (nI t) 8 c = if CB = 100 then (-5) else T 8 c := by simp [hitT, xa, eCB, c100 lCB]
      have f9 : hitT T a c (nI t) 9 c = if CB = 100 then 2 else if WB = 20 then 1 else 0 := by simp [hitT, xa, eCB, eWB, c100 lCB, c20 lWB]
      have f10 : hitT T a c (nI t) 10 c = if CB = 100 ∧ ¬ CA = 100 then nI a else (-5) := by simp [hitT, xa, eCA, eCB, c100 lCA, c100 lCB, e10b]
      refine ⟨?_, ⟨CB, lCB, f5, fun hne => ?_⟩, ⟨WB, lWB, f6, fun he => ?_, fun he => ?_⟩, fun he => ?_, ?_, fun j hj he => ?_⟩
      · rw [f9]
        split
        · exact ⟨2, by decide, h2⟩
        · split
          · exact ⟨1, by decide, h1⟩
          · exact ⟨0, by decide, h0⟩
      · rw [f9] at hne
        by_cases e : CB = 100
        · rw [if_pos e] at hne; exact absurd rfl hne
        · omega
      · rw [f9] at he
        by_cases e : CB = 100
        · rw [if_pos e] at he; exact absurd he d5
        · rw [if_neg e] at he
          by_cases e' : WB = 20
          · rw [if_pos e'] at he; exact absurd he d4
          · omega
      · rw [f9] at he
        by_cases e : CB = 100
        · rw [if_pos e] at he; exact absurd he d6
        · rw [if_neg e] at he
          by_cases e' : WB = 20
          · exact e'
          · rw [if_neg e'] at he; exact absurd he d1
      · rw [f9] at he
        by_cases e : CB = 100
        · exact ⟨f7 e, by rw [f8, if_pos e]⟩
        · rw [if_neg e] at he
          by_cases e' : WB = 20
          · rw [if_pos e'] at he; exact absurd he d3
          · rw [if_neg e'] at he; exact absurd he d2
      · rw [f8]
        split
        · exact Or.inl rfl
        · exact b5
      · rw [f10] at he
        by_cases e : CB = 100 ∧ ¬ CA = 100
        · rw [if_pos e] at he
          have ej := nI_inj (by omega) (by omega) he
          subst ej
          rw [q3, f5, e.1]
          exact ⟨hown, rfl⟩
        · rw [if_neg e] at he
          exact absurd he (n5 j hj)
    · refine ec_same (T := T) (fun c _ => by rw [q3]) hc ?_ ?_ ?_ ?_ ?_ ?_ (hE c hc)
      all_goals simp [hitT, xa, xb]
theorem st_hit (h : St T n s) {a b t : Nat} (ha : a < n) (hb : b < n) (hab : a ≠ b) (hown : T 3 a ≠ T 3 b) (h9a : T 9 a = 0) (h9b : T 9 b = 0) (ht : t ≤ 9) : St (hitT T a b (nI t)) n (s + 1) := by
  obtain ⟨hI, hE, hJ, hs⟩ := h
  have hn := iv_n hI
  exact ⟨hit_Iv hI ha hb hab h9a h9b _, ev_hit hI hE ha hb hab hown h9a h9b ht, jk_hit hJ (by omega) (by omega) _, by rw [hit_012, hs, nI_p1]⟩
theorem ev_frame (hE : Ev T n) (h3 : ∀ c, c < n → T' 3 c = T 3 c) {i : Nat} (hi : Ec T' n i) (h : ∀ c, c < n → c ≠ i → T' 5 c = T 5 c ∧ T' 6 c = T 6 c ∧ T' 7 c = T 7 c ∧ T' 8 c = T 8 c ∧ T' 9 c = T 9 c ∧ T' 10 c = T 10 c) : Ev T' n := by
  intro c hc
  by_cases hci : c = i
  · rw [hci]; exact hi
  · obtain ⟨a, b, c', d, e, f⟩ := h c hc hci
    exact ec_same h3 hc a b c' d e f (hE c hc)
end ST
